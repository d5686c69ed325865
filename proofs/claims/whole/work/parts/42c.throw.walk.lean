set_option maxHeartbeats 4000000 in
set_option maxRecDepth 100000 in
theorem c_Ly_like (l : Launch) (D : va_G) (cI cZ : ClassId) (a : Nat → Nat) {V : Sto} {p1 : Int32} {r : Int32} {V' : Sto} (h : f_Ly_like V p1 = some (.inl r, V')) : YMi l D cI cZ a shpC y_Ly_like b_Ly_like 2 (some .int) rm_Ly_like false [.ref (a 0), .int p1] V r V' := by
  refine YMi_of (by decide) (Nat.le_of_ble_eq_true rfl) ?_
  intro C hl hDD hcI hcZ ha hC hw hE
  subst hl hDD hcI hcZ ha
  show Y C shpC 2 0 [(0, .ref (C.a 0)), (1, .int p1)] [] V
  rw [f_Ly_like] at h
  refine Y_aload_n (pc := 0) hC d_Ly_like_0 rfl 0 rfl ?_
  obtain ⟨r1, V1, hc_r1, h⟩ := clT_ret h
  refine Y_callVv (pc := 1) hC (c_Ly_askLinked C.l C.D C.cI C.cZ C.a hc_r1) (fun q => nomatch q) sc_0 cls_Ly ml_Ly_254 mv_Ly_askLinked (by decide) (Nat.le_of_ble_eq_true rfl) rfl d_Ly_like_1 ?_
  refine Y_aload_n (pc := 4) hC d_Ly_like_4 rfl 0 rfl ?_
  refine Y_iload_n (pc := 5) hC d_Ly_like_5 rfl 1 rfl ?_
  obtain ⟨r2, V2, hc_r2, h⟩ := clT_ret h
  refine Y_callVv (pc := 6) hC (c_Ly_askSection C.l C.D C.cI C.cZ C.a hc_r2) (fun q => nomatch q) sc_0 cls_Ly ml_Ly_262 mv_Ly_askSection (by decide) (Nat.le_of_ble_eq_true rfl) rfl d_Ly_like_6 ?_
  refine Y_aload_n (pc := 9) hC d_Ly_like_9 rfl 0 rfl ?_
  refine Y_getR (pc := 10) hC sc_0 fl_Ly_58 rfl d_Ly_like_10 ?_
  refine Y_getR (pc := 13) hC sc_7 fl_Ly_269 rfl d_Ly_like_13 ?_
  refine Y_iload_n (pc := 16) hC d_Ly_like_16 rfl 1 rfl ?_
  obtain ⟨hi, h⟩ := ck_some h
  refine Y_zald (pc := 17) hC sc_43 rfl hi d_Ly_like_17 ?_
  refine Y_if_eq (pc := 18) hC 33 d_Ly_like_18 rfl (fun cc_18 => ?_) (fun cc_18 => ?_)
  · have h := ifp cc_18 h
    refine Y_iconst (pc := 33) hC d_Ly_like_33 ki_m1 ?_
    have h := inl_some h
    exact Y_iret (pc := 34) hC hE d_Ly_like_34 h
  · have h := ifn cc_18 h
    refine Y_aload_n (pc := 21) hC d_Ly_like_21 rfl 0 rfl ?_
    refine Y_getR (pc := 22) hC sc_0 fl_Ly_67 rfl d_Ly_like_22 ?_
    refine Y_getR (pc := 25) hC sc_8 fl_Ly_272 rfl d_Ly_like_25 ?_
    refine Y_iload_n (pc := 28) hC d_Ly_like_28 rfl 1 rfl ?_
    obtain ⟨hi, h⟩ := ck_some h
    refine Y_iald (pc := 29) hC sc_46 rfl hi d_Ly_like_29 ?_
    refine Y_goto (pc := 30) hC 34 d_Ly_like_30 rfl ?_
    have h := inl_some h
    exact Y_iret (pc := 34) hC hE d_Ly_like_34 h
set_option maxHeartbeats 4000000 in
set_option maxRecDepth 100000 in
theorem t_Ly_like (l : Launch) (D : va_G) (cI cZ : ClassId) (a : Nat → Nat) (hN : NoTr l) {V : Sto} {p1 : Int32} {e : Nat} {V' : Sto} (h : f_Ly_like V p1 = some (.inr e, V')) : YMt l D cI cZ a shpC y_Ly_like b_Ly_like 2 (some .int) rmt_Ly_like [.ref (a 0), .int p1] V (exn e) := by
  refine YMt_of hN (by decide) (Nat.le_of_ble_eq_true rfl) ?_
  intro C hl hDD hcI hcZ ha hC hT
  subst hl hDD hcI hcZ ha
  show Y C shpC 2 0 [(0, .ref (C.a 0)), (1, .int p1)] [] V
  rw [f_Ly_like] at h
  refine Y_aload_n (pc := 0) hC d_Ly_like_0 rfl 0 rfl ?_
  rcases clT_thr h with h | ⟨r1, V1, hc_r1, h⟩
  · exact Y_callT (pc := 1) hC hT (t_Ly_askLinked C.l C.D C.cI C.cZ C.a hN h) sc_0 cls_Ly ml_Ly_254 mv_Ly_askLinked (by decide) (Nat.le_of_ble_eq_true rfl) rfl d_Ly_like_1
  refine Y_callVv (pc := 1) hC (c_Ly_askLinked C.l C.D C.cI C.cZ C.a hc_r1) (fun q => nomatch q) sc_0 cls_Ly ml_Ly_254 mv_Ly_askLinked (by decide) (Nat.le_of_ble_eq_true rfl) rfl d_Ly_like_1 ?_
  refine Y_aload_n (pc := 4) hC d_Ly_like_4 rfl 0 rfl ?_
  refine Y_iload_n (pc := 5) hC d_Ly_like_5 rfl 1 rfl ?_
  rcases clT_thr h with h | ⟨r2, V2, hc_r2, h⟩
  · exact Y_callT (pc := 6) hC hT (t_Ly_askSection C.l C.D C.cI C.cZ C.a hN h) sc_0 cls_Ly ml_Ly_262 mv_Ly_askSection (by decide) (Nat.le_of_ble_eq_true rfl) rfl d_Ly_like_6
  refine Y_callVv (pc := 6) hC (c_Ly_askSection C.l C.D C.cI C.cZ C.a hc_r2) (fun q => nomatch q) sc_0 cls_Ly ml_Ly_262 mv_Ly_askSection (by decide) (Nat.le_of_ble_eq_true rfl) rfl d_Ly_like_6 ?_
  obtain ⟨-, h⟩ := ck_some h
  rcases ite_or h with h | h
  · have h := h
    cases h
  · have h := h
    obtain ⟨-, h⟩ := ck_some h
    cases h
set_option maxHeartbeats 4000000 in
set_option maxRecDepth 100000 in
theorem c_Ly_means (l : Launch) (D : va_G) (cI cZ : ClassId) (a : Nat → Nat) {V : Sto} {p1 : Int32} {p2 : Int32} {r : Int32} {V' : Sto} (h : f_Ly_means V p1 p2 = some (.inl r, V')) : YMi l D cI cZ a shpC y_Ly_means b_Ly_means 3 (some .int) rm_Ly_means false [.ref (a 0), .int p1, .int p2] V r V' := by
  refine YMi_of (by decide) (Nat.le_of_ble_eq_true rfl) ?_
  intro C hl hDD hcI hcZ ha hC hw hE
  subst hl hDD hcI hcZ ha
  show Y C shpC 3 0 [(0, .ref (C.a 0)), (1, .int p1), (2, .int p2)] [] V
  rw [f_Ly_means] at h
  refine Y_aload_n (pc := 0) hC d_Ly_means_0 rfl 0 rfl ?_
  obtain ⟨r1, V1, hc_r1, h⟩ := clT_ret h
  refine Y_callVv (pc := 1) hC (c_Ly_askLinked C.l C.D C.cI C.cZ C.a hc_r1) (fun q => nomatch q) sc_0 cls_Ly ml_Ly_254 mv_Ly_askLinked (by decide) (Nat.le_of_ble_eq_true rfl) rfl d_Ly_means_1 ?_
  refine Y_aload_n (pc := 4) hC d_Ly_means_4 rfl 0 rfl ?_
  refine Y_getR (pc := 5) hC sc_0 fl_Ly_26 rfl d_Ly_means_5 ?_
  refine Y_iload_n (pc := 8) hC d_Ly_means_8 rfl 1 rfl ?_
  obtain ⟨r2, V2, hc_r2, h⟩ := cl_some h
  refine Y_callV (pc := 9) hC (c_Sy_has C.l C.D C.cI C.cZ C.a hc_r2) (fun q => nomatch q) sc_3 cls_Sy ml_Ly_205 mv_Sy_has (by decide) (Nat.le_of_ble_eq_true rfl) rfl d_Ly_means_9 ?_
  refine Y_if_ne (pc := 12) hC 26 d_Ly_means_12 rfl (fun cc_12 => ?_) (fun cc_12 => ?_)
  · have h := ifn cc_12 h
    refine Y_iload_n (pc := 26) hC d_Ly_means_26 rfl 2 rfl ?_
    by_cases cs_27_0 : p2 = 0
    · have h := ifp cs_27_0 h
      refine Y_tableIn (pc := 27) hC (off := 25) 52 d_Ly_means_27 (by rw [cs_27_0]; decide) (by rw [cs_27_0]; decide) (by rw [cs_27_0]; try rfl) rfl ?_
      refine Y_aload_n (pc := 52) hC d_Ly_means_52 rfl 0 rfl ?_
      refine Y_getR (pc := 53) hC sc_0 fl_Ly_49 rfl d_Ly_means_53 ?_
      refine Y_getR (pc := 56) hC sc_6 fl_Ly_277 rfl d_Ly_means_56 ?_
      refine Y_iload_n (pc := 59) hC d_Ly_means_59 rfl 1 rfl ?_
      obtain ⟨hi, h⟩ := ck_some h
      refine Y_iald (pc := 60) hC sc_40 rfl hi d_Ly_means_60 ?_
      have h := inl_some h
      exact Y_iret (pc := 61) hC hE d_Ly_means_61 h
    · have h := ifn cs_27_0 h
      by_cases cs_27_1 : p2 = 1
      · have h := ifp cs_27_1 h
        refine Y_tableIn (pc := 27) hC (off := 35) 62 d_Ly_means_27 (by rw [cs_27_1]; decide) (by rw [cs_27_1]; decide) (by rw [cs_27_1]; try rfl) rfl ?_
        refine Y_aload_n (pc := 62) hC d_Ly_means_62 rfl 0 rfl ?_
        refine Y_getR (pc := 63) hC sc_0 fl_Ly_49 rfl d_Ly_means_63 ?_
        refine Y_getR (pc := 66) hC sc_6 fl_Ly_277 rfl d_Ly_means_66 ?_
        refine Y_iload_n (pc := 69) hC d_Ly_means_69 rfl 1 rfl ?_
        obtain ⟨hi, h⟩ := ck_some h
        refine Y_iald (pc := 70) hC sc_40 rfl hi d_Ly_means_70 ?_
        refine Y_iconst (pc := 71) hC d_Ly_means_71 ki_1 ?_
        refine Y_icmp_ne (pc := 72) hC 87 d_Ly_means_72 rfl (fun cc_72 => ?_) (fun cc_72 => ?_)
        · have h := ifn cc_72 h
          refine Y_iconst (pc := 87) hC d_Ly_means_87 ki_m1 ?_
          have h := inl_some h
          exact Y_iret (pc := 88) hC hE d_Ly_means_88 h
        · have h := ifp cc_72 h
          refine Y_aload_n (pc := 75) hC d_Ly_means_75 rfl 0 rfl ?_
          refine Y_getR (pc := 76) hC sc_0 fl_Ly_49 rfl d_Ly_means_76 ?_
          refine Y_getR (pc := 79) hC sc_6 fl_Ly_280 rfl d_Ly_means_79 ?_
          refine Y_iload_n (pc := 82) hC d_Ly_means_82 rfl 1 rfl ?_
          obtain ⟨hi, h⟩ := ck_some h
          refine Y_iald (pc := 83) hC sc_41 rfl hi d_Ly_means_83 ?_
          refine Y_goto (pc := 84) hC 88 d_Ly_means_84 rfl ?_
          have h := inl_some h
          exact Y_iret (pc := 88) hC hE d_Ly_means_88 h
      · have h := ifn cs_27_1 h
        by_cases cs_27_2 : p2 = 2
        · have h := ifp cs_27_2 h
          refine Y_tableIn (pc := 27) hC (off := 62) 89 d_Ly_means_27 (by rw [cs_27_2]; decide) (by rw [cs_27_2]; decide) (by rw [cs_27_2]; try rfl) rfl ?_
          refine Y_aload_n (pc := 89) hC d_Ly_means_89 rfl 0 rfl ?_
          refine Y_getR (pc := 90) hC sc_0 fl_Ly_76 rfl d_Ly_means_90 ?_
          refine Y_iload_n (pc := 93) hC d_Ly_means_93 rfl 1 rfl ?_
          obtain ⟨r3, V3, hc_r3, h⟩ := cl_some h
          refine Y_callV (pc := 94) hC (c_La_isLaid C.l C.D C.cI C.cZ C.a hc_r3) (fun q => nomatch q) sc_9 cls_La ml_Ly_283 mv_La_isLaid (by decide) (Nat.le_of_ble_eq_true rfl) rfl d_Ly_means_94 ?_
          refine Y_if_eq (pc := 97) hC 111 d_Ly_means_97 rfl (fun cc_97 => ?_) (fun cc_97 => ?_)
          · have h := ifp cc_97 h
            refine Y_iconst (pc := 111) hC d_Ly_means_111 ki_0 ?_
            have h := inl_some h
            exact Y_iret (pc := 112) hC hE d_Ly_means_112 h
          · have h := ifn cc_97 h
            refine Y_aload_n (pc := 100) hC d_Ly_means_100 rfl 0 rfl ?_
            refine Y_getR (pc := 101) hC sc_0 fl_Ly_76 rfl d_Ly_means_101 ?_
            refine Y_iload_n (pc := 104) hC d_Ly_means_104 rfl 1 rfl ?_
            obtain ⟨r4, V4, hc_r4, h⟩ := cl_some h
            refine Y_callV (pc := 105) hC (c_La_addressOf C.l C.D C.cI C.cZ C.a hc_r4) (fun q => nomatch q) sc_9 cls_La ml_Ly_286 mv_La_addressOf (by decide) (Nat.le_of_ble_eq_true rfl) rfl d_Ly_means_105 ?_
            refine Y_goto (pc := 108) hC 112 d_Ly_means_108 rfl ?_
            have h := inl_some h
            exact Y_iret (pc := 112) hC hE d_Ly_means_112 h
        · have h := ifn cs_27_2 h
          have cn_0 := i32_ne cs_27_0
          have cn_1 := i32_ne cs_27_1
          have cn_2 := i32_ne cs_27_2
          simp only [i32lit_0, i32lit_1, i32lit_2] at cn_0 cn_1 cn_2
          refine Y_tableOut (pc := 27) hC 113 d_Ly_means_27 (by omega) rfl ?_
          cases h
  · have h := ifp cc_12 h
    cases h
set_option maxHeartbeats 4000000 in
set_option maxRecDepth 100000 in
theorem t_Ly_means (l : Launch) (D : va_G) (cI cZ : ClassId) (a : Nat → Nat) (hN : NoTr l) {V : Sto} {p1 : Int32} {p2 : Int32} {e : Nat} {V' : Sto} (h : f_Ly_means V p1 p2 = some (.inr e, V')) : YMt l D cI cZ a shpC y_Ly_means b_Ly_means 3 (some .int) rmt_Ly_means [.ref (a 0), .int p1, .int p2] V (exn e) := by
  refine YMt_of hN (by decide) (Nat.le_of_ble_eq_true rfl) ?_
  intro C hl hDD hcI hcZ ha hC hT
  subst hl hDD hcI hcZ ha
  show Y C shpC 3 0 [(0, .ref (C.a 0)), (1, .int p1), (2, .int p2)] [] V
  rw [f_Ly_means] at h
  refine Y_aload_n (pc := 0) hC d_Ly_means_0 rfl 0 rfl ?_
  rcases clT_thr h with h | ⟨r1, V1, hc_r1, h⟩
  · exact Y_callT (pc := 1) hC hT (t_Ly_askLinked C.l C.D C.cI C.cZ C.a hN h) sc_0 cls_Ly ml_Ly_254 mv_Ly_askLinked (by decide) (Nat.le_of_ble_eq_true rfl) rfl d_Ly_means_1
  refine Y_callVv (pc := 1) hC (c_Ly_askLinked C.l C.D C.cI C.cZ C.a hc_r1) (fun q => nomatch q) sc_0 cls_Ly ml_Ly_254 mv_Ly_askLinked (by decide) (Nat.le_of_ble_eq_true rfl) rfl d_Ly_means_1 ?_
  refine Y_aload_n (pc := 4) hC d_Ly_means_4 rfl 0 rfl ?_
  refine Y_getR (pc := 5) hC sc_0 fl_Ly_26 rfl d_Ly_means_5 ?_
  refine Y_iload_n (pc := 8) hC d_Ly_means_8 rfl 1 rfl ?_
  obtain ⟨r2, V2, hc_r2, h⟩ := cl_some h
  refine Y_callV (pc := 9) hC (c_Sy_has C.l C.D C.cI C.cZ C.a hc_r2) (fun q => nomatch q) sc_3 cls_Sy ml_Ly_205 mv_Sy_has (by decide) (Nat.le_of_ble_eq_true rfl) rfl d_Ly_means_9 ?_
  refine Y_if_ne (pc := 12) hC 26 d_Ly_means_12 rfl (fun cc_12 => ?_) (fun cc_12 => ?_)
  · have h := ifn cc_12 h
    refine Y_iload_n (pc := 26) hC d_Ly_means_26 rfl 2 rfl ?_
    by_cases cs_27_0 : p2 = 0
    · have h := ifp cs_27_0 h
      refine Y_tableIn (pc := 27) hC (off := 25) 52 d_Ly_means_27 (by rw [cs_27_0]; decide) (by rw [cs_27_0]; decide) (by rw [cs_27_0]; try rfl) rfl ?_
      obtain ⟨-, h⟩ := ck_some h
      cases h
    · have h := ifn cs_27_0 h
      by_cases cs_27_1 : p2 = 1
      · have h := ifp cs_27_1 h
        refine Y_tableIn (pc := 27) hC (off := 35) 62 d_Ly_means_27 (by rw [cs_27_1]; decide) (by rw [cs_27_1]; decide) (by rw [cs_27_1]; try rfl) rfl ?_
        obtain ⟨-, h⟩ := ck_some h
        rcases ite_or h with h | h
        · have h := h
          obtain ⟨-, h⟩ := ck_some h
          cases h
        · have h := h
          cases h
      · have h := ifn cs_27_1 h
        by_cases cs_27_2 : p2 = 2
        · have h := ifp cs_27_2 h
          refine Y_tableIn (pc := 27) hC (off := 62) 89 d_Ly_means_27 (by rw [cs_27_2]; decide) (by rw [cs_27_2]; decide) (by rw [cs_27_2]; try rfl) rfl ?_
          obtain ⟨_, _, -, h⟩ := cl_some h
          rcases ite_or h with h | h
          · have h := h
            cases h
          · have h := h
            obtain ⟨_, _, -, h⟩ := cl_some h
            cases h
        · have h := ifn cs_27_2 h
          have cn_0 := i32_ne cs_27_0
          have cn_1 := i32_ne cs_27_1
          have cn_2 := i32_ne cs_27_2
          simp only [i32lit_0, i32lit_1, i32lit_2] at cn_0 cn_1 cn_2
          refine Y_tableOut (pc := 27) hC 113 d_Ly_means_27 (by omega) rfl ?_
          cases h
          exact Y_throwW (pc := 113) (E := "java/lang/IllegalArgumentException") (tx := "no such what") (len := 2) (names := ["java/lang/RuntimeException", "java/lang/Exception"]) hC hT tok_Ly_112_108 (by decide) rfl (by decide) d_Ly_means_113 d_Ly_means_116 (Or.inl ⟨d_Ly_means_117, rfl⟩) d_Ly_means_119 d_Ly_means_122
  · have h := ifp cc_12 h
    cases h
    exact Y_throwW (pc := 15) (E := "java/lang/IllegalArgumentException") (tx := "no such symbol") (len := 3) (names := ["java/lang/RuntimeException", "java/lang/Exception"]) hC hT tok_Ly_112_108 (by decide) rfl (by decide) d_Ly_means_15 d_Ly_means_18 (Or.inr ⟨d_Ly_means_19, rfl⟩) d_Ly_means_22 d_Ly_means_25
set_option maxHeartbeats 4000000 in
set_option maxRecDepth 100000 in
theorem c_Ly_common (l : Launch) (D : va_G) (cI cZ : ClassId) (a : Nat → Nat) {V : Sto} {p1 : Int32} {r : Int32} {V' : Sto} (h : f_Ly_common V p1 = some (.inl r, V')) : YMi l D cI cZ a shpC y_Ly_common b_Ly_common 2 (some .int) rm_Ly_common false [.ref (a 0), .int p1] V r V' := by
  refine YMi_of (by decide) (Nat.le_of_ble_eq_true rfl) ?_
  intro C hl hDD hcI hcZ ha hC hw hE
  subst hl hDD hcI hcZ ha
  show Y C shpC 2 0 [(0, .ref (C.a 0)), (1, .int p1)] [] V
  rw [f_Ly_common] at h
  refine Y_aload_n (pc := 0) hC d_Ly_common_0 rfl 0 rfl ?_
  obtain ⟨r1, V1, hc_r1, h⟩ := clT_ret h
  refine Y_callVv (pc := 1) hC (c_Ly_askLinked C.l C.D C.cI C.cZ C.a hc_r1) (fun q => nomatch q) sc_0 cls_Ly ml_Ly_254 mv_Ly_askLinked (by decide) (Nat.le_of_ble_eq_true rfl) rfl d_Ly_common_1 ?_
  refine Y_iload_n (pc := 4) hC d_Ly_common_4 rfl 1 rfl ?_
  obtain ⟨r2, V2, hc_r2, h⟩ := cl_some h
  refine Y_callS (pc := 5) hC (c_Ly_isName C.l C.D C.cI C.cZ C.a hc_r2) (fun q => nomatch q) ml_Ly_171 ms_Ly_isName (by decide) (Nat.le_of_ble_eq_true rfl) rfl d_Ly_common_5 ?_
  refine Y_if_ne (pc := 8) hC 21 d_Ly_common_8 rfl (fun cc_8 => ?_) (fun cc_8 => ?_)
  · have h := ifn cc_8 h
    refine Y_aload_n (pc := 21) hC d_Ly_common_21 rfl 0 rfl ?_
    refine Y_getR (pc := 22) hC sc_0 fl_Ly_76 rfl d_Ly_common_22 ?_
    refine Y_getR (pc := 25) hC sc_9 fl_Ly_289 rfl d_Ly_common_25 ?_
    refine Y_iload_n (pc := 28) hC d_Ly_common_28 rfl 1 rfl ?_
    obtain ⟨hi, h⟩ := ck_some h
    refine Y_iald (pc := 29) hC sc_49 rfl hi d_Ly_common_29 ?_
    have h := inl_some h
    exact Y_iret (pc := 30) hC hE d_Ly_common_30 h
  · have h := ifp cc_8 h
    cases h
set_option maxHeartbeats 4000000 in
set_option maxRecDepth 100000 in
theorem t_Ly_common (l : Launch) (D : va_G) (cI cZ : ClassId) (a : Nat → Nat) (hN : NoTr l) {V : Sto} {p1 : Int32} {e : Nat} {V' : Sto} (h : f_Ly_common V p1 = some (.inr e, V')) : YMt l D cI cZ a shpC y_Ly_common b_Ly_common 2 (some .int) rmt_Ly_common [.ref (a 0), .int p1] V (exn e) := by
  refine YMt_of hN (by decide) (Nat.le_of_ble_eq_true rfl) ?_
  intro C hl hDD hcI hcZ ha hC hT
  subst hl hDD hcI hcZ ha
  show Y C shpC 2 0 [(0, .ref (C.a 0)), (1, .int p1)] [] V
  rw [f_Ly_common] at h
  refine Y_aload_n (pc := 0) hC d_Ly_common_0 rfl 0 rfl ?_
  rcases clT_thr h with h | ⟨r1, V1, hc_r1, h⟩
  · exact Y_callT (pc := 1) hC hT (t_Ly_askLinked C.l C.D C.cI C.cZ C.a hN h) sc_0 cls_Ly ml_Ly_254 mv_Ly_askLinked (by decide) (Nat.le_of_ble_eq_true rfl) rfl d_Ly_common_1
  refine Y_callVv (pc := 1) hC (c_Ly_askLinked C.l C.D C.cI C.cZ C.a hc_r1) (fun q => nomatch q) sc_0 cls_Ly ml_Ly_254 mv_Ly_askLinked (by decide) (Nat.le_of_ble_eq_true rfl) rfl d_Ly_common_1 ?_
  refine Y_iload_n (pc := 4) hC d_Ly_common_4 rfl 1 rfl ?_
  obtain ⟨r2, V2, hc_r2, h⟩ := cl_some h
  refine Y_callS (pc := 5) hC (c_Ly_isName C.l C.D C.cI C.cZ C.a hc_r2) (fun q => nomatch q) ml_Ly_171 ms_Ly_isName (by decide) (Nat.le_of_ble_eq_true rfl) rfl d_Ly_common_5 ?_
  refine Y_if_ne (pc := 8) hC 21 d_Ly_common_8 rfl (fun cc_8 => ?_) (fun cc_8 => ?_)
  · have h := ifn cc_8 h
    obtain ⟨-, h⟩ := ck_some h
    cases h
  · have h := ifp cc_8 h
    cases h
    exact Y_throwW (pc := 11) (E := "java/lang/IllegalArgumentException") (tx := "no such name") (len := 2) (names := ["java/lang/RuntimeException", "java/lang/Exception"]) hC hT tok_Ly_112_108 (by decide) rfl (by decide) d_Ly_common_11 d_Ly_common_14 (Or.inl ⟨d_Ly_common_15, rfl⟩) d_Ly_common_17 d_Ly_common_20
set_option maxHeartbeats 4000000 in
set_option maxRecDepth 100000 in
theorem c_Ly_at (l : Launch) (D : va_G) (cI cZ : ClassId) (a : Nat → Nat) {V : Sto} {p1 : Int32} {r : Int32} {V' : Sto} (h : f_Ly_at V p1 = some (.inl r, V')) : YMi l D cI cZ a shpC y_Ly_at b_Ly_at 2 (some .int) rm_Ly_at false [.ref (a 0), .int p1] V r V' := by
  refine YMi_of (by decide) (Nat.le_of_ble_eq_true rfl) ?_
  intro C hl hDD hcI hcZ ha hC hw hE
  subst hl hDD hcI hcZ ha
  show Y C shpC 2 0 [(0, .ref (C.a 0)), (1, .int p1)] [] V
  rw [f_Ly_at] at h
  refine Y_aload_n (pc := 0) hC d_Ly_at_0 rfl 0 rfl ?_
  obtain ⟨r1, V1, hc_r1, h⟩ := clT_ret h
  refine Y_callVv (pc := 1) hC (c_Ly_askLinked C.l C.D C.cI C.cZ C.a hc_r1) (fun q => nomatch q) sc_0 cls_Ly ml_Ly_254 mv_Ly_askLinked (by decide) (Nat.le_of_ble_eq_true rfl) rfl d_Ly_at_1 ?_
  refine Y_iload_n (pc := 4) hC d_Ly_at_4 rfl 1 rfl ?_
  refine Y_iconst (pc := 5) hC d_Ly_at_5 ki_4 ?_
  refine Y_irem (pc := 6) hC d_Ly_at_6 (by decide) ?_
  refine Y_if_ne (pc := 7) hC 32 d_Ly_at_7 rfl (fun cc_7 => ?_) (fun cc_7 => ?_)
  · have h := ifn cc_7 h
    cases h
  · have h := ifp cc_7 h
    refine Y_iload_n (pc := 10) hC d_Ly_at_10 rfl 1 rfl ?_
    refine Y_aload_n (pc := 11) hC d_Ly_at_11 rfl 0 rfl ?_
    refine Y_getR (pc := 12) hC sc_0 fl_Ly_76 rfl d_Ly_at_12 ?_
    refine Y_getI (pc := 15) hC sc_9 fl_Ly_292 rfl d_Ly_at_15 ?_
    refine Y_icmp_lt (pc := 18) hC 32 d_Ly_at_18 rfl (fun cc_18 => ?_) (fun cc_18 => ?_)
    · have h := ifp cc_18 h
      cases h
    · have h := ifn cc_18 h
      refine Y_iload_n (pc := 21) hC d_Ly_at_21 rfl 1 rfl ?_
      refine Y_aload_n (pc := 22) hC d_Ly_at_22 rfl 0 rfl ?_
      refine Y_getR (pc := 23) hC sc_0 fl_Ly_76 rfl d_Ly_at_23 ?_
      refine Y_getI (pc := 26) hC sc_9 fl_Ly_246 rfl d_Ly_at_26 ?_
      refine Y_icmp_lt (pc := 29) hC 43 d_Ly_at_29 rfl (fun cc_29 => ?_) (fun cc_29 => ?_)
      · have h := ifp cc_29 h
        refine Y_aload_n (pc := 43) hC d_Ly_at_43 rfl 0 rfl ?_
        refine Y_getR (pc := 44) hC sc_0 fl_Ly_94 rfl d_Ly_at_44 ?_
        refine Y_iload_n (pc := 47) hC d_Ly_at_47 rfl 1 rfl ?_
        obtain ⟨r2, V2, hc_r2, h⟩ := cl_some h
        refine Y_callV (pc := 48) hC (c_Me_read C.l C.D C.cI C.cZ C.a hc_r2) (fun q => nomatch q) sc_11 cls_Me ml_Ly_300 mv_Me_read (by decide) (Nat.le_of_ble_eq_true rfl) rfl d_Ly_at_48 ?_
        have h := inl_some h
        exact Y_iret (pc := 51) hC hE d_Ly_at_51 h
      · have h := ifn cc_29 h
        cases h
set_option maxHeartbeats 4000000 in
set_option maxRecDepth 100000 in
theorem t_Ly_at (l : Launch) (D : va_G) (cI cZ : ClassId) (a : Nat → Nat) (hN : NoTr l) {V : Sto} {p1 : Int32} {e : Nat} {V' : Sto} (h : f_Ly_at V p1 = some (.inr e, V')) : YMt l D cI cZ a shpC y_Ly_at b_Ly_at 2 (some .int) rmt_Ly_at [.ref (a 0), .int p1] V (exn e) := by
  refine YMt_of hN (by decide) (Nat.le_of_ble_eq_true rfl) ?_
  intro C hl hDD hcI hcZ ha hC hT
  subst hl hDD hcI hcZ ha
  show Y C shpC 2 0 [(0, .ref (C.a 0)), (1, .int p1)] [] V
  rw [f_Ly_at] at h
  refine Y_aload_n (pc := 0) hC d_Ly_at_0 rfl 0 rfl ?_
  rcases clT_thr h with h | ⟨r1, V1, hc_r1, h⟩
  · exact Y_callT (pc := 1) hC hT (t_Ly_askLinked C.l C.D C.cI C.cZ C.a hN h) sc_0 cls_Ly ml_Ly_254 mv_Ly_askLinked (by decide) (Nat.le_of_ble_eq_true rfl) rfl d_Ly_at_1
  refine Y_callVv (pc := 1) hC (c_Ly_askLinked C.l C.D C.cI C.cZ C.a hc_r1) (fun q => nomatch q) sc_0 cls_Ly ml_Ly_254 mv_Ly_askLinked (by decide) (Nat.le_of_ble_eq_true rfl) rfl d_Ly_at_1 ?_
  refine Y_iload_n (pc := 4) hC d_Ly_at_4 rfl 1 rfl ?_
  refine Y_iconst (pc := 5) hC d_Ly_at_5 ki_4 ?_
  refine Y_irem (pc := 6) hC d_Ly_at_6 (by decide) ?_
  refine Y_if_ne (pc := 7) hC 32 d_Ly_at_7 rfl (fun cc_7 => ?_) (fun cc_7 => ?_)
  · have h := ifn cc_7 h
    cases h
    exact Y_throwW (pc := 32) (E := "java/lang/IndexOutOfBoundsException") (tx := "no such address") (len := 3) (names := ["java/lang/RuntimeException", "java/lang/Exception"]) hC hT tok_Ly_299_295 (by decide) rfl (by decide) d_Ly_at_32 d_Ly_at_35 (Or.inr ⟨d_Ly_at_36, rfl⟩) d_Ly_at_39 d_Ly_at_42
  · have h := ifp cc_7 h
    refine Y_iload_n (pc := 10) hC d_Ly_at_10 rfl 1 rfl ?_
    refine Y_aload_n (pc := 11) hC d_Ly_at_11 rfl 0 rfl ?_
    refine Y_getR (pc := 12) hC sc_0 fl_Ly_76 rfl d_Ly_at_12 ?_
    refine Y_getI (pc := 15) hC sc_9 fl_Ly_292 rfl d_Ly_at_15 ?_
    refine Y_icmp_lt (pc := 18) hC 32 d_Ly_at_18 rfl (fun cc_18 => ?_) (fun cc_18 => ?_)
    · have h := ifp cc_18 h
      cases h
      exact Y_throwW (pc := 32) (E := "java/lang/IndexOutOfBoundsException") (tx := "no such address") (len := 3) (names := ["java/lang/RuntimeException", "java/lang/Exception"]) hC hT tok_Ly_299_295 (by decide) rfl (by decide) d_Ly_at_32 d_Ly_at_35 (Or.inr ⟨d_Ly_at_36, rfl⟩) d_Ly_at_39 d_Ly_at_42
    · have h := ifn cc_18 h
      refine Y_iload_n (pc := 21) hC d_Ly_at_21 rfl 1 rfl ?_
      refine Y_aload_n (pc := 22) hC d_Ly_at_22 rfl 0 rfl ?_
      refine Y_getR (pc := 23) hC sc_0 fl_Ly_76 rfl d_Ly_at_23 ?_
      refine Y_getI (pc := 26) hC sc_9 fl_Ly_246 rfl d_Ly_at_26 ?_
      refine Y_icmp_lt (pc := 29) hC 43 d_Ly_at_29 rfl (fun cc_29 => ?_) (fun cc_29 => ?_)
      · have h := ifp cc_29 h
        obtain ⟨_, _, -, h⟩ := cl_some h
        cases h
      · have h := ifn cc_29 h
        cases h
        exact Y_throwW (pc := 32) (E := "java/lang/IndexOutOfBoundsException") (tx := "no such address") (len := 3) (names := ["java/lang/RuntimeException", "java/lang/Exception"]) hC hT tok_Ly_299_295 (by decide) rfl (by decide) d_Ly_at_32 d_Ly_at_35 (Or.inr ⟨d_Ly_at_36, rfl⟩) d_Ly_at_39 d_Ly_at_42
set_option maxHeartbeats 4000000 in
set_option maxRecDepth 100000 in
theorem c_Ly_about (l : Launch) (D : va_G) (cI cZ : ClassId) (a : Nat → Nat) {V : Sto} {p1 : Int32} {r : Int32} {V' : Sto} (h : f_Ly_about V p1 = some (.inl r, V')) : YMi l D cI cZ a shpC y_Ly_about b_Ly_about 2 (some .int) rm_Ly_about false [.ref (a 0), .int p1] V r V' := by
  refine YMi_of (by decide) (Nat.le_of_ble_eq_true rfl) ?_
  intro C hl hDD hcI hcZ ha hC hw hE
  subst hl hDD hcI hcZ ha
  show Y C shpC 2 0 [(0, .ref (C.a 0)), (1, .int p1)] [] V
  rw [f_Ly_about] at h
  refine Y_aload_n (pc := 0) hC d_Ly_about_0 rfl 0 rfl ?_
  obtain ⟨r1, V1, hc_r1, h⟩ := clT_ret h
  refine Y_callVv (pc := 1) hC (c_Ly_askLinked C.l C.D C.cI C.cZ C.a hc_r1) (fun q => nomatch q) sc_0 cls_Ly ml_Ly_254 mv_Ly_askLinked (by decide) (Nat.le_of_ble_eq_true rfl) rfl d_Ly_about_1 ?_
  refine Y_iload_n (pc := 4) hC d_Ly_about_4 rfl 1 rfl ?_
  by_cases cs_5_0 : p1 = 0
  · have h := ifp cs_5_0 h
    refine Y_tableIn (pc := 5) hC (off := 47) 52 d_Ly_about_5 (by rw [cs_5_0]; decide) (by rw [cs_5_0]; decide) (by rw [cs_5_0]; try rfl) rfl ?_
    refine Y_aload_n (pc := 52) hC d_Ly_about_52 rfl 0 rfl ?_
    refine Y_getR (pc := 53) hC sc_0 fl_Ly_10 rfl d_Ly_about_53 ?_
    obtain ⟨r2, V2, hc_r2, h⟩ := cl_some h
    refine Y_callV (pc := 56) hC (c_Un_countIn C.l C.D C.cI C.cZ C.a hc_r2) (fun q => nomatch q) sc_1 cls_Un ml_Ly_303 mv_Un_countIn (by decide) (Nat.le_of_ble_eq_true rfl) rfl d_Ly_about_56 ?_
    have h := inl_some h
    exact Y_iret (pc := 59) hC hE d_Ly_about_59 h
  · have h := ifn cs_5_0 h
    by_cases cs_5_1 : p1 = 1
    · have h := ifp cs_5_1 h
      refine Y_tableIn (pc := 5) hC (off := 55) 60 d_Ly_about_5 (by rw [cs_5_1]; decide) (by rw [cs_5_1]; decide) (by rw [cs_5_1]; try rfl) rfl ?_
      refine Y_aload_n (pc := 60) hC d_Ly_about_60 rfl 0 rfl ?_
      refine Y_getR (pc := 61) hC sc_0 fl_Ly_58 rfl d_Ly_about_61 ?_
      refine Y_getI (pc := 64) hC sc_7 fl_Ly_307 rfl d_Ly_about_64 ?_
      have h := inl_some h
      exact Y_iret (pc := 67) hC hE d_Ly_about_67 h
    · have h := ifn cs_5_1 h
      by_cases cs_5_2 : p1 = 2
      · have h := ifp cs_5_2 h
        refine Y_tableIn (pc := 5) hC (off := 63) 68 d_Ly_about_5 (by rw [cs_5_2]; decide) (by rw [cs_5_2]; decide) (by rw [cs_5_2]; try rfl) rfl ?_
        refine Y_aload_n (pc := 68) hC d_Ly_about_68 rfl 0 rfl ?_
        refine Y_getR (pc := 69) hC sc_0 fl_Ly_67 rfl d_Ly_about_69 ?_
        obtain ⟨r3, V3, hc_r3, h⟩ := cl_some h
        refine Y_callV (pc := 72) hC (c_Fo_countFolded C.l C.D C.cI C.cZ C.a hc_r3) (fun q => nomatch q) sc_8 cls_Fo ml_Ly_310 mv_Fo_countFolded (by decide) (Nat.le_of_ble_eq_true rfl) rfl d_Ly_about_72 ?_
        have h := inl_some h
        exact Y_iret (pc := 75) hC hE d_Ly_about_75 h
      · have h := ifn cs_5_2 h
        by_cases cs_5_3 : p1 = 3
        · have h := ifp cs_5_3 h
          refine Y_tableIn (pc := 5) hC (off := 71) 76 d_Ly_about_5 (by rw [cs_5_3]; decide) (by rw [cs_5_3]; decide) (by rw [cs_5_3]; try rfl) rfl ?_
          refine Y_aload_n (pc := 76) hC d_Ly_about_76 rfl 0 rfl ?_
          refine Y_getR (pc := 77) hC sc_0 fl_Ly_85 rfl d_Ly_about_77 ?_
          refine Y_getI (pc := 80) hC sc_10 fl_Ly_313 rfl d_Ly_about_80 ?_
          have h := inl_some h
          exact Y_iret (pc := 83) hC hE d_Ly_about_83 h
        · have h := ifn cs_5_3 h
          by_cases cs_5_4 : p1 = 4
          · have h := ifp cs_5_4 h
            refine Y_tableIn (pc := 5) hC (off := 79) 84 d_Ly_about_5 (by rw [cs_5_4]; decide) (by rw [cs_5_4]; decide) (by rw [cs_5_4]; try rfl) rfl ?_
            refine Y_aload_n (pc := 84) hC d_Ly_about_84 rfl 0 rfl ?_
            refine Y_getR (pc := 85) hC sc_0 fl_Ly_85 rfl d_Ly_about_85 ?_
            refine Y_getI (pc := 88) hC sc_10 fl_Ly_313 rfl d_Ly_about_88 ?_
            refine Y_if_le (pc := 91) hC 104 d_Ly_about_91 rfl (fun cc_91 => ?_) (fun cc_91 => ?_)
            · have h := ifp cc_91 h
              refine Y_iconst (pc := 104) hC d_Ly_about_104 ki_m1 ?_
              have h := inl_some h
              exact Y_iret (pc := 105) hC hE d_Ly_about_105 h
            · have h := ifn cc_91 h
              refine Y_aload_n (pc := 94) hC d_Ly_about_94 rfl 0 rfl ?_
              refine Y_getR (pc := 95) hC sc_0 fl_Ly_76 rfl d_Ly_about_95 ?_
              refine Y_getI (pc := 98) hC sc_9 fl_Ly_314 rfl d_Ly_about_98 ?_
              refine Y_goto (pc := 101) hC 105 d_Ly_about_101 rfl ?_
              have h := inl_some h
              exact Y_iret (pc := 105) hC hE d_Ly_about_105 h
          · have h := ifn cs_5_4 h
            by_cases cs_5_5 : p1 = 5
            · have h := ifp cs_5_5 h
              refine Y_tableIn (pc := 5) hC (off := 101) 106 d_Ly_about_5 (by rw [cs_5_5]; decide) (by rw [cs_5_5]; decide) (by rw [cs_5_5]; try rfl) rfl ?_
              refine Y_aload_n (pc := 106) hC d_Ly_about_106 rfl 0 rfl ?_
              refine Y_getR (pc := 107) hC sc_0 fl_Ly_85 rfl d_Ly_about_107 ?_
              refine Y_getI (pc := 110) hC sc_10 fl_Ly_317 rfl d_Ly_about_110 ?_
              have h := inl_some h
              exact Y_iret (pc := 113) hC hE d_Ly_about_113 h
            · have h := ifn cs_5_5 h
              by_cases cs_5_6 : p1 = 6
              · have h := ifp cs_5_6 h
                refine Y_tableIn (pc := 5) hC (off := 109) 114 d_Ly_about_5 (by rw [cs_5_6]; decide) (by rw [cs_5_6]; decide) (by rw [cs_5_6]; try rfl) rfl ?_
                refine Y_aload_n (pc := 114) hC d_Ly_about_114 rfl 0 rfl ?_
                refine Y_getR (pc := 115) hC sc_0 fl_Ly_76 rfl d_Ly_about_115 ?_
                refine Y_getI (pc := 118) hC sc_9 fl_Ly_246 rfl d_Ly_about_118 ?_
                have h := inl_some h
                exact Y_iret (pc := 121) hC hE d_Ly_about_121 h
              · have h := ifn cs_5_6 h
                by_cases cs_5_7 : p1 = 7
                · have h := ifp cs_5_7 h
                  refine Y_tableIn (pc := 5) hC (off := 117) 122 d_Ly_about_5 (by rw [cs_5_7]; decide) (by rw [cs_5_7]; decide) (by rw [cs_5_7]; try rfl) rfl ?_
                  refine Y_aload_n (pc := 122) hC d_Ly_about_122 rfl 0 rfl ?_
                  refine Y_getR (pc := 123) hC sc_0 fl_Ly_76 rfl d_Ly_about_123 ?_
                  refine Y_getI (pc := 126) hC sc_9 fl_Ly_320 rfl d_Ly_about_126 ?_
                  have h := inl_some h
                  exact Y_iret (pc := 129) hC hE d_Ly_about_129 h
                · have h := ifn cs_5_7 h
                  have cn_0 := i32_ne cs_5_0
                  have cn_1 := i32_ne cs_5_1
                  have cn_2 := i32_ne cs_5_2
                  have cn_3 := i32_ne cs_5_3
                  have cn_4 := i32_ne cs_5_4
                  have cn_5 := i32_ne cs_5_5
                  have cn_6 := i32_ne cs_5_6
                  have cn_7 := i32_ne cs_5_7
                  simp only [i32lit_0, i32lit_1, i32lit_2, i32lit_3, i32lit_4, i32lit_5, i32lit_6, i32lit_7] at cn_0 cn_1 cn_2 cn_3 cn_4 cn_5 cn_6 cn_7
                  refine Y_tableOut (pc := 5) hC 130 d_Ly_about_5 (by omega) rfl ?_
                  cases h
set_option maxHeartbeats 4000000 in
set_option maxRecDepth 100000 in
theorem t_Ly_about (l : Launch) (D : va_G) (cI cZ : ClassId) (a : Nat → Nat) (hN : NoTr l) {V : Sto} {p1 : Int32} {e : Nat} {V' : Sto} (h : f_Ly_about V p1 = some (.inr e, V')) : YMt l D cI cZ a shpC y_Ly_about b_Ly_about 2 (some .int) rmt_Ly_about [.ref (a 0), .int p1] V (exn e) := by
  refine YMt_of hN (by decide) (Nat.le_of_ble_eq_true rfl) ?_
  intro C hl hDD hcI hcZ ha hC hT
  subst hl hDD hcI hcZ ha
  show Y C shpC 2 0 [(0, .ref (C.a 0)), (1, .int p1)] [] V
  rw [f_Ly_about] at h
  refine Y_aload_n (pc := 0) hC d_Ly_about_0 rfl 0 rfl ?_
  rcases clT_thr h with h | ⟨r1, V1, hc_r1, h⟩
  · exact Y_callT (pc := 1) hC hT (t_Ly_askLinked C.l C.D C.cI C.cZ C.a hN h) sc_0 cls_Ly ml_Ly_254 mv_Ly_askLinked (by decide) (Nat.le_of_ble_eq_true rfl) rfl d_Ly_about_1
  refine Y_callVv (pc := 1) hC (c_Ly_askLinked C.l C.D C.cI C.cZ C.a hc_r1) (fun q => nomatch q) sc_0 cls_Ly ml_Ly_254 mv_Ly_askLinked (by decide) (Nat.le_of_ble_eq_true rfl) rfl d_Ly_about_1 ?_
  refine Y_iload_n (pc := 4) hC d_Ly_about_4 rfl 1 rfl ?_
  by_cases cs_5_0 : p1 = 0
  · have h := ifp cs_5_0 h
    refine Y_tableIn (pc := 5) hC (off := 47) 52 d_Ly_about_5 (by rw [cs_5_0]; decide) (by rw [cs_5_0]; decide) (by rw [cs_5_0]; try rfl) rfl ?_
    obtain ⟨_, _, -, h⟩ := cl_some h
    cases h
  · have h := ifn cs_5_0 h
    by_cases cs_5_1 : p1 = 1
    · have h := ifp cs_5_1 h
      refine Y_tableIn (pc := 5) hC (off := 55) 60 d_Ly_about_5 (by rw [cs_5_1]; decide) (by rw [cs_5_1]; decide) (by rw [cs_5_1]; try rfl) rfl ?_
      cases h
    · have h := ifn cs_5_1 h
      by_cases cs_5_2 : p1 = 2
      · have h := ifp cs_5_2 h
        refine Y_tableIn (pc := 5) hC (off := 63) 68 d_Ly_about_5 (by rw [cs_5_2]; decide) (by rw [cs_5_2]; decide) (by rw [cs_5_2]; try rfl) rfl ?_
        obtain ⟨_, _, -, h⟩ := cl_some h
        cases h
      · have h := ifn cs_5_2 h
        by_cases cs_5_3 : p1 = 3
        · have h := ifp cs_5_3 h
          refine Y_tableIn (pc := 5) hC (off := 71) 76 d_Ly_about_5 (by rw [cs_5_3]; decide) (by rw [cs_5_3]; decide) (by rw [cs_5_3]; try rfl) rfl ?_
          cases h
        · have h := ifn cs_5_3 h
          by_cases cs_5_4 : p1 = 4
          · have h := ifp cs_5_4 h
            refine Y_tableIn (pc := 5) hC (off := 79) 84 d_Ly_about_5 (by rw [cs_5_4]; decide) (by rw [cs_5_4]; decide) (by rw [cs_5_4]; try rfl) rfl ?_
            rcases ite_or h with h | h
            · have h := h
              cases h
            · have h := h
              cases h
          · have h := ifn cs_5_4 h
            by_cases cs_5_5 : p1 = 5
            · have h := ifp cs_5_5 h
              refine Y_tableIn (pc := 5) hC (off := 101) 106 d_Ly_about_5 (by rw [cs_5_5]; decide) (by rw [cs_5_5]; decide) (by rw [cs_5_5]; try rfl) rfl ?_
              cases h
            · have h := ifn cs_5_5 h
              by_cases cs_5_6 : p1 = 6
              · have h := ifp cs_5_6 h
                refine Y_tableIn (pc := 5) hC (off := 109) 114 d_Ly_about_5 (by rw [cs_5_6]; decide) (by rw [cs_5_6]; decide) (by rw [cs_5_6]; try rfl) rfl ?_
                cases h
              · have h := ifn cs_5_6 h
                by_cases cs_5_7 : p1 = 7
                · have h := ifp cs_5_7 h
                  refine Y_tableIn (pc := 5) hC (off := 117) 122 d_Ly_about_5 (by rw [cs_5_7]; decide) (by rw [cs_5_7]; decide) (by rw [cs_5_7]; try rfl) rfl ?_
                  cases h
                · have h := ifn cs_5_7 h
                  have cn_0 := i32_ne cs_5_0
                  have cn_1 := i32_ne cs_5_1
                  have cn_2 := i32_ne cs_5_2
                  have cn_3 := i32_ne cs_5_3
                  have cn_4 := i32_ne cs_5_4
                  have cn_5 := i32_ne cs_5_5
                  have cn_6 := i32_ne cs_5_6
                  have cn_7 := i32_ne cs_5_7
                  simp only [i32lit_0, i32lit_1, i32lit_2, i32lit_3, i32lit_4, i32lit_5, i32lit_6, i32lit_7] at cn_0 cn_1 cn_2 cn_3 cn_4 cn_5 cn_6 cn_7
                  refine Y_tableOut (pc := 5) hC 130 d_Ly_about_5 (by omega) rfl ?_
                  cases h
                  exact Y_throwW (pc := 130) (E := "java/lang/IllegalArgumentException") (tx := "no such what") (len := 2) (names := ["java/lang/RuntimeException", "java/lang/Exception"]) hC hT tok_Ly_112_108 (by decide) rfl (by decide) d_Ly_about_130 d_Ly_about_133 (Or.inl ⟨d_Ly_about_134, rfl⟩) d_Ly_about_136 d_Ly_about_139
