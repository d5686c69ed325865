set_option maxHeartbeats 4000000 in
set_option maxRecDepth 100000 in
theorem c_Fo_mayFold (l : Launch) (D : va_G) (cI cZ : ClassId) (a : Nat → Nat) {V : Sto} {p1 : Int32} {r : Int32} {V' : Sto} (h : f_Fo_mayFold V p1 = some (r, V')) : YMi l D cI cZ a shpC y_Fo_mayFold b_Fo_mayFold 2 (some .boolean) rm_Fo_mayFold false [.ref (a 8), .int p1] V r V' := by
  refine YMi_of (by decide) (Nat.le_of_ble_eq_true rfl) ?_
  intro C hl hDD hcI hcZ ha hC hw hE
  subst hl hDD hcI hcZ ha
  show Y C shpC 2 0 [(0, .ref (C.a 8)), (1, .int p1)] [] V
  rw [f_Fo_mayFold] at h
  refine Y_aload_n (pc := 0) hC d_Fo_mayFold_0 rfl 0 rfl ?_
  refine Y_getR (pc := 1) hC sc_8 fl_Fo_30 rfl d_Fo_mayFold_1 ?_
  refine Y_getR (pc := 4) hC sc_7 fl_Fo_55 rfl d_Fo_mayFold_4 ?_
  refine Y_iload_n (pc := 7) hC d_Fo_mayFold_7 rfl 1 rfl ?_
  obtain ⟨hi, h⟩ := ck_some h
  refine Y_zald (pc := 8) hC sc_43 rfl hi d_Fo_mayFold_8 ?_
  refine Y_if_eq (pc := 9) hC 40 d_Fo_mayFold_9 rfl (fun cc_9 => ?_) (fun cc_9 => ?_)
  · have h := ifp cc_9 h
    refine Y_iconst (pc := 40) hC d_Fo_mayFold_40 ki_0 ?_
    exact Y_zret (pc := 41) hC hE d_Fo_mayFold_41 rfl h
  · have h := ifn cc_9 h
    refine Y_aload_n (pc := 12) hC d_Fo_mayFold_12 rfl 0 rfl ?_
    refine Y_getR (pc := 13) hC sc_8 fl_Fo_18 rfl d_Fo_mayFold_13 ?_
    refine Y_getR (pc := 16) hC sc_2 fl_Fo_61 rfl d_Fo_mayFold_16 ?_
    refine Y_iload_n (pc := 19) hC d_Fo_mayFold_19 rfl 1 rfl ?_
    obtain ⟨hi, h⟩ := ck_some h
    refine Y_iald (pc := 20) hC sc_16 rfl hi d_Fo_mayFold_20 ?_
    refine Y_if_ne (pc := 21) hC 40 d_Fo_mayFold_21 rfl (fun cc_21 => ?_) (fun cc_21 => ?_)
    · have h := ifn cc_21 h
      refine Y_iconst (pc := 40) hC d_Fo_mayFold_40 ki_0 ?_
      exact Y_zret (pc := 41) hC hE d_Fo_mayFold_41 rfl h
    · have h := ifp cc_21 h
      refine Y_aload_n (pc := 24) hC d_Fo_mayFold_24 rfl 0 rfl ?_
      refine Y_getR (pc := 25) hC sc_8 fl_Fo_18 rfl d_Fo_mayFold_25 ?_
      refine Y_getR (pc := 28) hC sc_2 fl_Fo_64 rfl d_Fo_mayFold_28 ?_
      refine Y_iload_n (pc := 31) hC d_Fo_mayFold_31 rfl 1 rfl ?_
      obtain ⟨hi, h⟩ := ck_some h
      refine Y_zald (pc := 32) hC sc_20 rfl hi d_Fo_mayFold_32 ?_
      refine Y_if_ne (pc := 33) hC 40 d_Fo_mayFold_33 rfl (fun cc_33 => ?_) (fun cc_33 => ?_)
      · have h := ifn cc_33 h
        refine Y_iconst (pc := 40) hC d_Fo_mayFold_40 ki_0 ?_
        exact Y_zret (pc := 41) hC hE d_Fo_mayFold_41 rfl h
      · have h := ifp cc_33 h
        refine Y_iconst (pc := 36) hC d_Fo_mayFold_36 ki_1 ?_
        refine Y_goto (pc := 37) hC 41 d_Fo_mayFold_37 rfl ?_
        exact Y_zret (pc := 41) hC hE d_Fo_mayFold_41 rfl h
set_option maxHeartbeats 4000000 in
set_option maxRecDepth 100000 in
theorem ylp_Fo_firstOfSameLook_2 {C : YC} {r : Int32} {V' : Sto} {x1 : Int32} {k34 : Int32 → Sto → RT} {k42 : Sto → RT} (hC : YF C R_Fo b_Fo_firstOfSameLook 3 rm_Fo_firstOfSameLook) (hE : YEi C .int shpC r V') (hk34 : ∀ (y2 : Int32) (V1 : Sto), k34 y2 V1 = some (r, V') → Y C shpC 3 34 [(2, .int y2)] [] V1) (hk42 : ∀ (V1 : Sto), k42 V1 = some (r, V') → Y C shpC 3 42 [(1, .int x1)] [] V1) : ∀ (n : Nat) (x2 : Int32) (V : Sto), lp_Fo_firstOfSameLook_2 x1 k34 k42 n x2 V = some (r, V') → Y C shpC 3 2 [(0, .ref (C.a 8)), (1, .int x1), (2, .int x2)] [] V := by
  intro n
  induction n with
  | zero =>
    intro x2 V h
    rw [lp_Fo_firstOfSameLook_2] at h
    cases h
  | succ n ih =>
    intro x2 V h
    rw [lp_Fo_firstOfSameLook_2] at h
    refine Y_iload_n (pc := 2) hC d_Fo_firstOfSameLook_2 rfl 2 rfl ?_
    refine Y_iload_n (pc := 3) hC d_Fo_firstOfSameLook_3 rfl 1 rfl ?_
    refine Y_icmp_ge (pc := 4) hC 42 d_Fo_firstOfSameLook_4 rfl (fun cc_4 => ?_) (fun cc_4 => ?_)
    · have h := ifp cc_4 h
      refine Y_sub (pc := 42) [1] rfl ?_
      exact hk42 _ h
    · have h := ifn cc_4 h
      refine Y_aload_n (pc := 7) hC d_Fo_firstOfSameLook_7 rfl 0 rfl ?_
      refine Y_getR (pc := 8) hC sc_8 fl_Fo_9 rfl d_Fo_firstOfSameLook_8 ?_
      refine Y_iload_n (pc := 11) hC d_Fo_firstOfSameLook_11 rfl 2 rfl ?_
      obtain ⟨hi, h⟩ := ck_some h
      refine Y_iald (pc := 12) hC sc_46 rfl hi d_Fo_firstOfSameLook_12 ?_
      refine Y_iload_n (pc := 13) hC d_Fo_firstOfSameLook_13 rfl 2 rfl ?_
      refine Y_icmp_ne (pc := 14) hC 36 d_Fo_firstOfSameLook_14 rfl (fun cc_14 => ?_) (fun cc_14 => ?_)
      · have h := ifn cc_14 h
        refine Y_iinc (pc := 36) hC (v := x2 + 1) (L' := [(2, .int (x2 + 1)), (0, .ref (C.a 8)), (1, .int x1)]) d_Fo_firstOfSameLook_36 2 rfl rfl (by decide) rfl ?_
        refine Y_goto (pc := 39) hC 2 d_Fo_firstOfSameLook_39 rfl ?_
        refine Y_sub (pc := 2) [1, 2, 0] rfl ?_
        exact ih _ _ h
      · have h := ifp cc_14 h
        refine Y_aload_n (pc := 17) hC d_Fo_firstOfSameLook_17 rfl 0 rfl ?_
        refine Y_iload_n (pc := 18) hC d_Fo_firstOfSameLook_18 rfl 2 rfl ?_
        obtain ⟨r1, V1, hc_r1, h⟩ := cl_some h
        refine Y_callV (pc := 19) hC (c_Fo_mayFold C.l C.D C.cI C.cZ C.a hc_r1) (fun q => nomatch q) sc_8 cls_Fo ml_Fo_40 mv_Fo_mayFold (by decide) (Nat.le_of_ble_eq_true rfl) rfl d_Fo_firstOfSameLook_19 ?_
        refine Y_if_eq (pc := 22) hC 36 d_Fo_firstOfSameLook_22 rfl (fun cc_22 => ?_) (fun cc_22 => ?_)
        · have h := ifp cc_22 h
          refine Y_iinc (pc := 36) hC (v := x2 + 1) (L' := [(2, .int (x2 + 1)), (0, .ref (C.a 8)), (1, .int x1)]) d_Fo_firstOfSameLook_36 2 rfl rfl (by decide) rfl ?_
          refine Y_goto (pc := 39) hC 2 d_Fo_firstOfSameLook_39 rfl ?_
          refine Y_sub (pc := 2) [1, 2, 0] rfl ?_
          exact ih _ _ h
        · have h := ifn cc_22 h
          refine Y_aload_n (pc := 25) hC d_Fo_firstOfSameLook_25 rfl 0 rfl ?_
          refine Y_iload_n (pc := 26) hC d_Fo_firstOfSameLook_26 rfl 2 rfl ?_
          refine Y_iload_n (pc := 27) hC d_Fo_firstOfSameLook_27 rfl 1 rfl ?_
          obtain ⟨r2, V2, hc_r2, h⟩ := cl_some h
          refine Y_callV (pc := 28) hC (c_Fo_looksSame C.l C.D C.cI C.cZ C.a hc_r2) (fun q => nomatch q) sc_8 cls_Fo ml_Fo_67 mv_Fo_looksSame (by decide) (Nat.le_of_ble_eq_true rfl) rfl d_Fo_firstOfSameLook_28 ?_
          refine Y_if_eq (pc := 31) hC 36 d_Fo_firstOfSameLook_31 rfl (fun cc_31 => ?_) (fun cc_31 => ?_)
          · have h := ifp cc_31 h
            refine Y_iinc (pc := 36) hC (v := x2 + 1) (L' := [(2, .int (x2 + 1)), (0, .ref (C.a 8)), (1, .int x1)]) d_Fo_firstOfSameLook_36 2 rfl rfl (by decide) rfl ?_
            refine Y_goto (pc := 39) hC 2 d_Fo_firstOfSameLook_39 rfl ?_
            refine Y_sub (pc := 2) [1, 2, 0] rfl ?_
            exact ih _ _ h
          · have h := ifn cc_31 h
            refine Y_sub (pc := 34) [2] rfl ?_
            exact hk34 _ _ h
set_option maxHeartbeats 4000000 in
set_option maxRecDepth 100000 in
theorem c_Fo_firstOfSameLook (l : Launch) (D : va_G) (cI cZ : ClassId) (a : Nat → Nat) {V : Sto} {p1 : Int32} {r : Int32} {V' : Sto} (h : f_Fo_firstOfSameLook V p1 = some (r, V')) : YMi l D cI cZ a shpC y_Fo_firstOfSameLook b_Fo_firstOfSameLook 3 (some .int) rm_Fo_firstOfSameLook false [.ref (a 8), .int p1] V r V' := by
  refine YMi_of (by decide) (Nat.le_of_ble_eq_true rfl) ?_
  intro C hl hDD hcI hcZ ha hC hw hE
  subst hl hDD hcI hcZ ha
  show Y C shpC 3 0 [(0, .ref (C.a 8)), (1, .int p1)] [] V
  rw [f_Fo_firstOfSameLook] at h
  refine Y_iconst (pc := 0) hC d_Fo_firstOfSameLook_0 ki_0 ?_
  refine Y_istore_n (pc := 1) hC (L' := [(2, .int 0), (0, .ref (C.a 8)), (1, .int p1)]) d_Fo_firstOfSameLook_1 rfl (by decide) rfl ?_
  refine Y_sub (pc := 2) [1, 2, 0] rfl ?_
  refine ylp_Fo_firstOfSameLook_2 hC hE (fun y1 V3 h => ?_) (fun V4 h => ?_) FU _ _ h
  · have h := h
    refine Y_iload_n (pc := 34) hC d_Fo_firstOfSameLook_34 rfl 0 rfl ?_
    exact Y_iret (pc := 35) hC hE d_Fo_firstOfSameLook_35 h
  · have h := h
    refine Y_iload_n (pc := 42) hC d_Fo_firstOfSameLook_42 rfl 0 rfl ?_
    exact Y_iret (pc := 43) hC hE d_Fo_firstOfSameLook_43 h
set_option maxHeartbeats 4000000 in
set_option maxRecDepth 100000 in
theorem c_Fo_leaderOfMeant (l : Launch) (D : va_G) (cI cZ : ClassId) (a : Nat → Nat) {V : Sto} {p1 : Int32} {r : Int32} {V' : Sto} (h : f_Fo_leaderOfMeant V p1 = some (r, V')) : YMi l D cI cZ a shpC y_Fo_leaderOfMeant b_Fo_leaderOfMeant 3 (some .int) rm_Fo_leaderOfMeant false [.ref (a 8), .int p1] V r V' := by
  refine YMi_of (by decide) (Nat.le_of_ble_eq_true rfl) ?_
  intro C hl hDD hcI hcZ ha hC hw hE
  subst hl hDD hcI hcZ ha
  show Y C shpC 3 0 [(0, .ref (C.a 8)), (1, .int p1)] [] V
  rw [f_Fo_leaderOfMeant] at h
  refine Y_aload_n (pc := 0) hC d_Fo_leaderOfMeant_0 rfl 0 rfl ?_
  refine Y_getR (pc := 1) hC sc_8 fl_Fo_26 rfl d_Fo_leaderOfMeant_1 ?_
  refine Y_getR (pc := 4) hC sc_6 fl_Fo_133 rfl d_Fo_leaderOfMeant_4 ?_
  refine Y_iload_n (pc := 7) hC d_Fo_leaderOfMeant_7 rfl 1 rfl ?_
  obtain ⟨hi, h⟩ := ck_some h
  refine Y_iald (pc := 8) hC sc_41 rfl hi d_Fo_leaderOfMeant_8 ?_
  refine Y_istore_n (pc := 9) hC (L' := [(2, .int (V 41 p1.toNatClampNeg)), (0, .ref (C.a 8)), (1, .int p1)]) d_Fo_leaderOfMeant_9 rfl (by decide) rfl ?_
  refine Y_aload_n (pc := 10) hC d_Fo_leaderOfMeant_10 rfl 1 rfl ?_
  refine Y_getR (pc := 11) hC sc_8 fl_Fo_26 rfl d_Fo_leaderOfMeant_11 ?_
  refine Y_getR (pc := 14) hC sc_6 fl_Fo_110 rfl d_Fo_leaderOfMeant_14 ?_
  refine Y_iload_n (pc := 17) hC d_Fo_leaderOfMeant_17 rfl 2 rfl ?_
  obtain ⟨hi, h⟩ := ck_some h
  refine Y_iald (pc := 18) hC sc_40 rfl hi d_Fo_leaderOfMeant_18 ?_
  refine Y_iconst (pc := 19) hC d_Fo_leaderOfMeant_19 ki_1 ?_
  refine Y_icmp_ne (pc := 20) hC 32 d_Fo_leaderOfMeant_20 rfl (fun cc_20 => ?_) (fun cc_20 => ?_)
  · have h := ifn cc_20 h
    refine Y_iload_n (pc := 32) hC d_Fo_leaderOfMeant_32 rfl 0 rfl ?_
    exact Y_iret (pc := 33) hC hE d_Fo_leaderOfMeant_33 h
  · have h := ifp cc_20 h
    refine Y_aload_n (pc := 23) hC d_Fo_leaderOfMeant_23 rfl 1 rfl ?_
    refine Y_getR (pc := 24) hC sc_8 fl_Fo_9 rfl d_Fo_leaderOfMeant_24 ?_
    refine Y_iload_n (pc := 27) hC d_Fo_leaderOfMeant_27 rfl 0 rfl ?_
    obtain ⟨hi, h⟩ := ck_some h
    refine Y_iald (pc := 28) hC sc_46 rfl hi d_Fo_leaderOfMeant_28 ?_
    refine Y_goto (pc := 29) hC 33 d_Fo_leaderOfMeant_29 rfl ?_
    exact Y_iret (pc := 33) hC hE d_Fo_leaderOfMeant_33 h
set_option maxHeartbeats 4000000 in
set_option maxRecDepth 100000 in
theorem ylp_Fo_hasSameTargets_2 {C : YC} {r : Int32} {V' : Sto} {x1 : Int32} {x2 : Int32} {k67 : Sto → RT} {k75 : Sto → RT} (hC : YF C R_Fo b_Fo_hasSameTargets 6 rm_Fo_hasSameTargets) (hE : YEi C .boolean shpC r V') (hk67 : ∀ (V1 : Sto), k67 V1 = some (r, V') → Y C shpC 6 67 [] [] V1) (hk75 : ∀ (V1 : Sto), k75 V1 = some (r, V') → Y C shpC 6 75 [] [] V1) : ∀ (n : Nat) (x3 : Int32) (V : Sto), lp_Fo_hasSameTargets_2 x1 x2 k67 k75 n x3 V = some (r, V') → Y C shpC 6 2 [(0, .ref (C.a 8)), (1, .int x1), (2, .int x2), (3, .int x3)] [] V := by
  intro n
  induction n with
  | zero =>
    intro x3 V h
    rw [lp_Fo_hasSameTargets_2] at h
    cases h
  | succ n ih =>
    intro x3 V h
    rw [lp_Fo_hasSameTargets_2] at h
    refine Y_iload_n (pc := 2) hC d_Fo_hasSameTargets_2 rfl 3 rfl ?_
    refine Y_aload_n (pc := 3) hC d_Fo_hasSameTargets_3 rfl 0 rfl ?_
    refine Y_getR (pc := 4) hC sc_8 fl_Fo_22 rfl d_Fo_hasSameTargets_4 ?_
    refine Y_iload_n (pc := 7) hC d_Fo_hasSameTargets_7 rfl 1 rfl ?_
    obtain ⟨r1, V1, hc_r1, h⟩ := cl_some h
    refine Y_callV (pc := 8) hC (c_Re_countOf C.l C.D C.cI C.cZ C.a hc_r1) (fun q => nomatch q) sc_4 cls_Re ml_Fo_87 mv_Re_countOf (by decide) (Nat.le_of_ble_eq_true rfl) rfl d_Fo_hasSameTargets_8 ?_
    refine Y_icmp_ge (pc := 11) hC 75 d_Fo_hasSameTargets_11 rfl (fun cc_11 => ?_) (fun cc_11 => ?_)
    · have h := ifp cc_11 h
      refine Y_sub (pc := 75) [] rfl ?_
      exact hk75 _ h
    · have h := ifn cc_11 h
      refine Y_aload_n (pc := 14) hC d_Fo_hasSameTargets_14 rfl 0 rfl ?_
      refine Y_getR (pc := 15) hC sc_8 fl_Fo_22 rfl d_Fo_hasSameTargets_15 ?_
      refine Y_getR (pc := 18) hC sc_4 fl_Fo_98 rfl d_Fo_hasSameTargets_18 ?_
      refine Y_aload_n (pc := 21) hC d_Fo_hasSameTargets_21 rfl 0 rfl ?_
      refine Y_getR (pc := 22) hC sc_8 fl_Fo_22 rfl d_Fo_hasSameTargets_22 ?_
      refine Y_iload_n (pc := 25) hC d_Fo_hasSameTargets_25 rfl 1 rfl ?_
      refine Y_iload_n (pc := 26) hC d_Fo_hasSameTargets_26 rfl 3 rfl ?_
      obtain ⟨r2, V2, hc_r2, h⟩ := cl_some h
      refine Y_callV (pc := 27) hC (c_Re_pick C.l C.D C.cI C.cZ C.a hc_r2) (fun q => nomatch q) sc_4 cls_Re ml_Fo_92 mv_Re_pick (by decide) (Nat.le_of_ble_eq_true rfl) rfl d_Fo_hasSameTargets_27 ?_
      obtain ⟨hi, h⟩ := ck_some h
      refine Y_iald (pc := 30) hC sc_30 rfl hi d_Fo_hasSameTargets_30 ?_
      refine Y_istore (pc := 31) hC (L' := [(4, .int (V2 30 r2.toNatClampNeg)), (0, .ref (C.a 8)), (1, .int x1), (2, .int x2), (3, .int x3)]) d_Fo_hasSameTargets_31 (by decide) rfl ?_
      refine Y_aload_n (pc := 33) hC d_Fo_hasSameTargets_33 rfl 1 rfl ?_
      refine Y_getR (pc := 34) hC sc_8 fl_Fo_22 rfl d_Fo_hasSameTargets_34 ?_
      refine Y_getR (pc := 37) hC sc_4 fl_Fo_98 rfl d_Fo_hasSameTargets_37 ?_
      refine Y_aload_n (pc := 40) hC d_Fo_hasSameTargets_40 rfl 1 rfl ?_
      refine Y_getR (pc := 41) hC sc_8 fl_Fo_22 rfl d_Fo_hasSameTargets_41 ?_
      refine Y_iload_n (pc := 44) hC d_Fo_hasSameTargets_44 rfl 3 rfl ?_
      refine Y_iload_n (pc := 45) hC d_Fo_hasSameTargets_45 rfl 4 rfl ?_
      obtain ⟨r3, V3, hc_r3, h⟩ := cl_some h
      refine Y_callV (pc := 46) hC (c_Re_pick C.l C.D C.cI C.cZ C.a hc_r3) (fun q => nomatch q) sc_4 cls_Re ml_Fo_92 mv_Re_pick (by decide) (Nat.le_of_ble_eq_true rfl) rfl d_Fo_hasSameTargets_46 ?_
      obtain ⟨hi, h⟩ := ck_some h
      refine Y_iald (pc := 49) hC sc_30 rfl hi d_Fo_hasSameTargets_49 ?_
      refine Y_istore (pc := 50) hC (L' := [(5, .int (V3 30 r3.toNatClampNeg)), (4, .int (V2 30 r2.toNatClampNeg)), (0, .ref (C.a 8)), (1, .int x1), (2, .int x2), (3, .int x3)]) d_Fo_hasSameTargets_50 (by decide) rfl ?_
      refine Y_aload_n (pc := 52) hC d_Fo_hasSameTargets_52 rfl 2 rfl ?_
      refine Y_iload (pc := 53) hC d_Fo_hasSameTargets_53 1 rfl ?_
      obtain ⟨r4, V4, hc_r4, h⟩ := cl_some h
      refine Y_callV (pc := 55) hC (c_Fo_leaderOfMeant C.l C.D C.cI C.cZ C.a hc_r4) (fun q => nomatch q) sc_8 cls_Fo ml_Fo_130 mv_Fo_leaderOfMeant (by decide) (Nat.le_of_ble_eq_true rfl) rfl d_Fo_hasSameTargets_55 ?_
      refine Y_aload_n (pc := 58) hC d_Fo_hasSameTargets_58 rfl 2 rfl ?_
      refine Y_iload (pc := 59) hC d_Fo_hasSameTargets_59 0 rfl ?_
      obtain ⟨r5, V5, hc_r5, h⟩ := cl_some h
      refine Y_callV (pc := 61) hC (c_Fo_leaderOfMeant C.l C.D C.cI C.cZ C.a hc_r5) (fun q => nomatch q) sc_8 cls_Fo ml_Fo_130 mv_Fo_leaderOfMeant (by decide) (Nat.le_of_ble_eq_true rfl) rfl d_Fo_hasSameTargets_61 ?_
      refine Y_icmp_eq (pc := 64) hC 69 d_Fo_hasSameTargets_64 rfl (fun cc_64 => ?_) (fun cc_64 => ?_)
      · have h := ifp cc_64 h
        refine Y_iinc (pc := 69) hC (v := x3 + 1) (L' := [(3, .int (x3 + 1)), (5, .int (V3 30 r3.toNatClampNeg)), (4, .int (V2 30 r2.toNatClampNeg)), (0, .ref (C.a 8)), (1, .int x1), (2, .int x2)]) d_Fo_hasSameTargets_69 5 rfl rfl (by decide) rfl ?_
        refine Y_goto (pc := 72) hC 2 d_Fo_hasSameTargets_72 rfl ?_
        refine Y_sub (pc := 2) [3, 4, 5, 0] rfl ?_
        exact ih _ _ h
      · have h := ifn cc_64 h
        refine Y_sub (pc := 67) [] rfl ?_
        exact hk67 _ h
set_option maxHeartbeats 4000000 in
set_option maxRecDepth 100000 in
theorem c_Fo_hasSameTargets (l : Launch) (D : va_G) (cI cZ : ClassId) (a : Nat → Nat) {V : Sto} {p1 : Int32} {p2 : Int32} {r : Int32} {V' : Sto} (h : f_Fo_hasSameTargets V p1 p2 = some (r, V')) : YMi l D cI cZ a shpC y_Fo_hasSameTargets b_Fo_hasSameTargets 6 (some .boolean) rm_Fo_hasSameTargets false [.ref (a 8), .int p1, .int p2] V r V' := by
  refine YMi_of (by decide) (Nat.le_of_ble_eq_true rfl) ?_
  intro C hl hDD hcI hcZ ha hC hw hE
  subst hl hDD hcI hcZ ha
  show Y C shpC 6 0 [(0, .ref (C.a 8)), (1, .int p1), (2, .int p2)] [] V
  rw [f_Fo_hasSameTargets] at h
  refine Y_iconst (pc := 0) hC d_Fo_hasSameTargets_0 ki_0 ?_
  refine Y_istore_n (pc := 1) hC (L' := [(3, .int 0), (0, .ref (C.a 8)), (1, .int p1), (2, .int p2)]) d_Fo_hasSameTargets_1 rfl (by decide) rfl ?_
  refine Y_sub (pc := 2) [1, 2, 3, 0] rfl ?_
  refine ylp_Fo_hasSameTargets_2 hC hE (fun V6 h => ?_) (fun V7 h => ?_) FU _ _ h
  · have h := h
    refine Y_iconst (pc := 67) hC d_Fo_hasSameTargets_67 ki_0 ?_
    exact Y_zret (pc := 68) hC hE d_Fo_hasSameTargets_68 rfl h
  · have h := h
    refine Y_iconst (pc := 75) hC d_Fo_hasSameTargets_75 ki_1 ?_
    exact Y_zret (pc := 76) hC hE d_Fo_hasSameTargets_76 rfl h
set_option maxHeartbeats 4000000 in
set_option maxRecDepth 100000 in
theorem ylp_Fo_firstOfSameTargets_7 {C : YC} {r : Int32} {V' : Sto} {x1 : Int32} {k46 : Int32 → Sto → RT} {k54 : Sto → RT} (hC : YF C R_Fo b_Fo_firstOfSameTargets 3 rm_Fo_firstOfSameTargets) (hE : YEi C .int shpC r V') (hk46 : ∀ (y2 : Int32) (V1 : Sto), k46 y2 V1 = some (r, V') → Y C shpC 3 46 [(2, .int y2)] [] V1) (hk54 : ∀ (V1 : Sto), k54 V1 = some (r, V') → Y C shpC 3 54 [(1, .int x1)] [] V1) : ∀ (n : Nat) (x2 : Int32) (V : Sto), lp_Fo_firstOfSameTargets_7 x1 k46 k54 n x2 V = some (r, V') → Y C shpC 3 7 [(0, .ref (C.a 8)), (1, .int x1), (2, .int x2)] [] V := by
  intro n
  induction n with
  | zero =>
    intro x2 V h
    rw [lp_Fo_firstOfSameTargets_7] at h
    cases h
  | succ n ih =>
    intro x2 V h
    rw [lp_Fo_firstOfSameTargets_7] at h
    refine Y_iload_n (pc := 7) hC d_Fo_firstOfSameTargets_7 rfl 2 rfl ?_
    refine Y_iload_n (pc := 8) hC d_Fo_firstOfSameTargets_8 rfl 1 rfl ?_
    refine Y_icmp_ge (pc := 9) hC 54 d_Fo_firstOfSameTargets_9 rfl (fun cc_9 => ?_) (fun cc_9 => ?_)
    · have h := ifp cc_9 h
      refine Y_sub (pc := 54) [1] rfl ?_
      exact hk54 _ h
    · have h := ifn cc_9 h
      refine Y_aload_n (pc := 12) hC d_Fo_firstOfSameTargets_12 rfl 0 rfl ?_
      refine Y_getR (pc := 13) hC sc_8 fl_Fo_15 rfl d_Fo_firstOfSameTargets_13 ?_
      refine Y_iload_n (pc := 16) hC d_Fo_firstOfSameTargets_16 rfl 2 rfl ?_
      obtain ⟨hi, h⟩ := ck_some h
      refine Y_iald (pc := 17) hC sc_47 rfl hi d_Fo_firstOfSameTargets_17 ?_
      refine Y_iload_n (pc := 18) hC d_Fo_firstOfSameTargets_18 rfl 2 rfl ?_
      refine Y_icmp_ne (pc := 19) hC 48 d_Fo_firstOfSameTargets_19 rfl (fun cc_19 => ?_) (fun cc_19 => ?_)
      · have h := ifn cc_19 h
        refine Y_iinc (pc := 48) hC (v := x2 + 1) (L' := [(2, .int (x2 + 1)), (0, .ref (C.a 8)), (1, .int x1)]) d_Fo_firstOfSameTargets_48 2 rfl rfl (by decide) rfl ?_
        refine Y_goto (pc := 51) hC 7 d_Fo_firstOfSameTargets_51 rfl ?_
        refine Y_sub (pc := 7) [1, 2, 0] rfl ?_
        exact ih _ _ h
      · have h := ifp cc_19 h
        refine Y_aload_n (pc := 22) hC d_Fo_firstOfSameTargets_22 rfl 0 rfl ?_
        refine Y_getR (pc := 23) hC sc_8 fl_Fo_9 rfl d_Fo_firstOfSameTargets_23 ?_
        refine Y_iload_n (pc := 26) hC d_Fo_firstOfSameTargets_26 rfl 2 rfl ?_
        obtain ⟨hi, h⟩ := ck_some h
        refine Y_iald (pc := 27) hC sc_46 rfl hi d_Fo_firstOfSameTargets_27 ?_
        refine Y_aload_n (pc := 28) hC d_Fo_firstOfSameTargets_28 rfl 0 rfl ?_
        refine Y_getR (pc := 29) hC sc_8 fl_Fo_9 rfl d_Fo_firstOfSameTargets_29 ?_
        refine Y_iload_n (pc := 32) hC d_Fo_firstOfSameTargets_32 rfl 1 rfl ?_
        obtain ⟨hi, h⟩ := ck_some h
        refine Y_iald (pc := 33) hC sc_46 rfl hi d_Fo_firstOfSameTargets_33 ?_
        refine Y_icmp_ne (pc := 34) hC 48 d_Fo_firstOfSameTargets_34 rfl (fun cc_34 => ?_) (fun cc_34 => ?_)
        · have h := ifn cc_34 h
          refine Y_iinc (pc := 48) hC (v := x2 + 1) (L' := [(2, .int (x2 + 1)), (0, .ref (C.a 8)), (1, .int x1)]) d_Fo_firstOfSameTargets_48 2 rfl rfl (by decide) rfl ?_
          refine Y_goto (pc := 51) hC 7 d_Fo_firstOfSameTargets_51 rfl ?_
          refine Y_sub (pc := 7) [1, 2, 0] rfl ?_
          exact ih _ _ h
        · have h := ifp cc_34 h
          refine Y_aload_n (pc := 37) hC d_Fo_firstOfSameTargets_37 rfl 0 rfl ?_
          refine Y_iload_n (pc := 38) hC d_Fo_firstOfSameTargets_38 rfl 2 rfl ?_
          refine Y_iload_n (pc := 39) hC d_Fo_firstOfSameTargets_39 rfl 1 rfl ?_
          obtain ⟨r1, V1, hc_r1, h⟩ := cl_some h
          refine Y_callV (pc := 40) hC (c_Fo_hasSameTargets C.l C.D C.cI C.cZ C.a hc_r1) (fun q => nomatch q) sc_8 cls_Fo ml_Fo_127 mv_Fo_hasSameTargets (by decide) (Nat.le_of_ble_eq_true rfl) rfl d_Fo_firstOfSameTargets_40 ?_
          refine Y_if_eq (pc := 43) hC 48 d_Fo_firstOfSameTargets_43 rfl (fun cc_43 => ?_) (fun cc_43 => ?_)
          · have h := ifp cc_43 h
            refine Y_iinc (pc := 48) hC (v := x2 + 1) (L' := [(2, .int (x2 + 1)), (0, .ref (C.a 8)), (1, .int x1)]) d_Fo_firstOfSameTargets_48 2 rfl rfl (by decide) rfl ?_
            refine Y_goto (pc := 51) hC 7 d_Fo_firstOfSameTargets_51 rfl ?_
            refine Y_sub (pc := 7) [1, 2, 0] rfl ?_
            exact ih _ _ h
          · have h := ifn cc_43 h
            refine Y_sub (pc := 46) [2] rfl ?_
            exact hk46 _ _ h
set_option maxHeartbeats 4000000 in
set_option maxRecDepth 100000 in
theorem c_Fo_firstOfSameTargets (l : Launch) (D : va_G) (cI cZ : ClassId) (a : Nat → Nat) {V : Sto} {p1 : Int32} {r : Int32} {V' : Sto} (h : f_Fo_firstOfSameTargets V p1 = some (r, V')) : YMi l D cI cZ a shpC y_Fo_firstOfSameTargets b_Fo_firstOfSameTargets 3 (some .int) rm_Fo_firstOfSameTargets false [.ref (a 8), .int p1] V r V' := by
  refine YMi_of (by decide) (Nat.le_of_ble_eq_true rfl) ?_
  intro C hl hDD hcI hcZ ha hC hw hE
  subst hl hDD hcI hcZ ha
  show Y C shpC 3 0 [(0, .ref (C.a 8)), (1, .int p1)] [] V
  rw [f_Fo_firstOfSameTargets] at h
  refine Y_aload_n (pc := 0) hC d_Fo_firstOfSameTargets_0 rfl 0 rfl ?_
  refine Y_getR (pc := 1) hC sc_8 fl_Fo_9 rfl d_Fo_firstOfSameTargets_1 ?_
  refine Y_iload_n (pc := 4) hC d_Fo_firstOfSameTargets_4 rfl 1 rfl ?_
  obtain ⟨hi, h⟩ := ck_some h
  refine Y_iald (pc := 5) hC sc_46 rfl hi d_Fo_firstOfSameTargets_5 ?_
  refine Y_istore_n (pc := 6) hC (L' := [(2, .int (V 46 p1.toNatClampNeg)), (0, .ref (C.a 8)), (1, .int p1)]) d_Fo_firstOfSameTargets_6 rfl (by decide) rfl ?_
  refine Y_sub (pc := 7) [1, 2, 0] rfl ?_
  refine ylp_Fo_firstOfSameTargets_7 hC hE (fun y1 V2 h => ?_) (fun V3 h => ?_) FU _ _ h
  · have h := h
    refine Y_iload_n (pc := 46) hC d_Fo_firstOfSameTargets_46 rfl 0 rfl ?_
    exact Y_iret (pc := 47) hC hE d_Fo_firstOfSameTargets_47 h
  · have h := h
    refine Y_iload_n (pc := 54) hC d_Fo_firstOfSameTargets_54 rfl 0 rfl ?_
    exact Y_iret (pc := 55) hC hE d_Fo_firstOfSameTargets_55 h
set_option maxHeartbeats 4000000 in
set_option maxRecDepth 100000 in
theorem ylp_Fo_split_4 {C : YC} {r : Int32} {V' : Sto} {k57 : Int32 → Sto → RT} (hC : YF C R_Fo b_Fo_split 3 rm_Fo_split) (hw : YWr C shpC) (hE : YEi C .boolean shpC r V') (hk57 : ∀ (y1 : Int32) (V1 : Sto), k57 y1 V1 = some (r, V') → Y C shpC 3 57 [(0, .ref (C.a 8)), (1, .int y1)] [] V1) : ∀ (n : Nat) (x1 x2 : Int32) (V : Sto), lp_Fo_split_4 k57 n x1 x2 V = some (r, V') → Y C shpC 3 4 [(0, .ref (C.a 8)), (1, .int x1), (2, .int x2)] [] V := by
  intro n
  induction n with
  | zero =>
    intro x1 x2 V h
    rw [lp_Fo_split_4] at h
    cases h
  | succ n ih =>
    intro x1 x2 V h
    rw [lp_Fo_split_4] at h
    refine Y_iload_n (pc := 4) hC d_Fo_split_4 rfl 2 rfl ?_
    refine Y_aload_n (pc := 5) hC d_Fo_split_5 rfl 0 rfl ?_
    refine Y_getR (pc := 6) hC sc_8 fl_Fo_18 rfl d_Fo_split_6 ?_
    refine Y_getI (pc := 9) hC sc_2 fl_Fo_34 rfl d_Fo_split_9 ?_
    refine Y_icmp_ge (pc := 12) hC 57 d_Fo_split_12 rfl (fun cc_12 => ?_) (fun cc_12 => ?_)
    · have h := ifp cc_12 h
      refine Y_sub (pc := 57) [0, 1] rfl ?_
      exact hk57 _ _ h
    · have h := ifn cc_12 h
      refine Y_aload_n (pc := 15) hC d_Fo_split_15 rfl 0 rfl ?_
      refine Y_getR (pc := 16) hC sc_8 fl_Fo_15 rfl d_Fo_split_16 ?_
      refine Y_iload_n (pc := 19) hC d_Fo_split_19 rfl 2 rfl ?_
      refine Y_aload_n (pc := 20) hC d_Fo_split_20 rfl 0 rfl ?_
      refine Y_iload_n (pc := 21) hC d_Fo_split_21 rfl 2 rfl ?_
      obtain ⟨r1, V1, hc_r1, h⟩ := cl_some h
      refine Y_callV (pc := 22) hC (c_Fo_firstOfSameTargets C.l C.D C.cI C.cZ C.a hc_r1) (fun q => nomatch q) sc_8 cls_Fo ml_Fo_118 mv_Fo_firstOfSameTargets (by decide) (Nat.le_of_ble_eq_true rfl) rfl d_Fo_split_22 ?_
      obtain ⟨hi, h⟩ := ck_some h
      obtain ⟨V2, hV2, h⟩ := nm_some h
      refine Y_iast (pc := 25) hC sc_47 (by decide) rfl hi hw rfl hV2 d_Fo_split_25 ?_
      refine Y_iload_n (pc := 26) hC d_Fo_split_26 rfl 1 rfl ?_
      refine Y_if_ne (pc := 27) hC 45 d_Fo_split_27 rfl (fun cc_27 => ?_) (fun cc_27 => ?_)
      · have h := ifn cc_27 h
        refine Y_iconst (pc := 45) hC d_Fo_split_45 ki_1 ?_
        refine Y_goto (pc := 46) hC 50 d_Fo_split_46 rfl ?_
        refine Y_istore_n (pc := 50) hC (L' := [(1, .int 1), (0, .ref (C.a 8)), (2, .int x2)]) d_Fo_split_50 rfl (by decide) rfl ?_
        refine Y_iinc (pc := 51) hC (v := x2 + 1) (L' := [(2, .int (x2 + 1)), (1, .int 1), (0, .ref (C.a 8))]) d_Fo_split_51 2 rfl rfl (by decide) rfl ?_
        refine Y_goto (pc := 54) hC 4 d_Fo_split_54 rfl ?_
        refine Y_sub (pc := 4) [2, 1, 0] rfl ?_
        exact ih _ _ _ h
      · have h := ifp cc_27 h
        refine Y_aload_n (pc := 30) hC d_Fo_split_30 rfl 0 rfl ?_
        refine Y_getR (pc := 31) hC sc_8 fl_Fo_15 rfl d_Fo_split_31 ?_
        refine Y_iload_n (pc := 34) hC d_Fo_split_34 rfl 2 rfl ?_
        obtain ⟨hi, h⟩ := ck_some h
        refine Y_iald (pc := 35) hC sc_47 rfl hi d_Fo_split_35 ?_
        refine Y_aload_n (pc := 36) hC d_Fo_split_36 rfl 0 rfl ?_
        refine Y_getR (pc := 37) hC sc_8 fl_Fo_9 rfl d_Fo_split_37 ?_
        refine Y_iload_n (pc := 40) hC d_Fo_split_40 rfl 2 rfl ?_
        obtain ⟨hi, h⟩ := ck_some h
        refine Y_iald (pc := 41) hC sc_46 rfl hi d_Fo_split_41 ?_
        refine Y_icmp_eq (pc := 42) hC 49 d_Fo_split_42 rfl (fun cc_42 => ?_) (fun cc_42 => ?_)
        · have h := ifp cc_42 h
          refine Y_iconst (pc := 49) hC d_Fo_split_49 ki_0 ?_
          refine Y_istore_n (pc := 50) hC (L' := [(1, .int 0), (0, .ref (C.a 8)), (2, .int x2)]) d_Fo_split_50 rfl (by decide) rfl ?_
          refine Y_iinc (pc := 51) hC (v := x2 + 1) (L' := [(2, .int (x2 + 1)), (1, .int 0), (0, .ref (C.a 8))]) d_Fo_split_51 2 rfl rfl (by decide) rfl ?_
          refine Y_goto (pc := 54) hC 4 d_Fo_split_54 rfl ?_
          refine Y_sub (pc := 4) [2, 1, 0] rfl ?_
          exact ih _ _ _ h
        · have h := ifn cc_42 h
          refine Y_iconst (pc := 45) hC d_Fo_split_45 ki_1 ?_
          refine Y_goto (pc := 46) hC 50 d_Fo_split_46 rfl ?_
          refine Y_istore_n (pc := 50) hC (L' := [(1, .int 1), (0, .ref (C.a 8)), (2, .int x2)]) d_Fo_split_50 rfl (by decide) rfl ?_
          refine Y_iinc (pc := 51) hC (v := x2 + 1) (L' := [(2, .int (x2 + 1)), (1, .int 1), (0, .ref (C.a 8))]) d_Fo_split_51 2 rfl rfl (by decide) rfl ?_
          refine Y_goto (pc := 54) hC 4 d_Fo_split_54 rfl ?_
          refine Y_sub (pc := 4) [2, 1, 0] rfl ?_
          exact ih _ _ _ h
set_option maxHeartbeats 4000000 in
set_option maxRecDepth 100000 in
theorem c_Fo_split (l : Launch) (D : va_G) (cI cZ : ClassId) (a : Nat → Nat) {V : Sto} {r : Int32} {V' : Sto} (h : f_Fo_split V = some (r, V')) : YMi l D cI cZ a shpC y_Fo_split b_Fo_split 3 (some .boolean) rm_Fo_split true [.ref (a 8)] V r V' := by
  refine YMi_of (by decide) (Nat.le_of_ble_eq_true rfl) ?_
  intro C hl hDD hcI hcZ ha hC hw hE
  subst hl hDD hcI hcZ ha
  show Y C shpC 3 0 [(0, .ref (C.a 8))] [] V
  have hw := hw rfl
  rw [f_Fo_split] at h
  refine Y_iconst (pc := 0) hC d_Fo_split_0 ki_0 ?_
  refine Y_istore_n (pc := 1) hC (L' := [(1, .int 0), (0, .ref (C.a 8))]) d_Fo_split_1 rfl (by decide) rfl ?_
  refine Y_iconst (pc := 2) hC d_Fo_split_2 ki_0 ?_
  refine Y_istore_n (pc := 3) hC (L' := [(2, .int 0), (1, .int 0), (0, .ref (C.a 8))]) d_Fo_split_3 rfl (by decide) rfl ?_
  refine Y_sub (pc := 4) [2, 1, 0] rfl ?_
  refine ylp_Fo_split_4 hC hw hE (fun y1 V3 h => ?_) FU _ _ _ h
  refine Y_aload_n (pc := 57) hC d_Fo_split_57 rfl 0 rfl ?_
  refine Y_getR (pc := 58) hC sc_8 fl_Fo_15 rfl d_Fo_split_58 ?_
  refine Y_iconst (pc := 61) hC d_Fo_split_61 ki_0 ?_
  refine Y_aload_n (pc := 62) hC d_Fo_split_62 rfl 0 rfl ?_
  refine Y_getR (pc := 63) hC sc_8 fl_Fo_9 rfl d_Fo_split_63 ?_
  refine Y_iconst (pc := 66) hC d_Fo_split_66 ki_0 ?_
  refine Y_aload_n (pc := 67) hC d_Fo_split_67 rfl 0 rfl ?_
  refine Y_getR (pc := 68) hC sc_8 fl_Fo_18 rfl d_Fo_split_68 ?_
  refine Y_getI (pc := 71) hC sc_2 fl_Fo_34 rfl d_Fo_split_71 ?_
  obtain ⟨hcp, h⟩ := ck_some h
  obtain ⟨V4, hV4, h⟩ := nm_some h
  refine Y_copy (pc := 74) hC sc_47 sc_46 (by decide) rfl rfl hcp hw hV4 mc_Fo_121 (by decide) (Nat.le_of_ble_eq_true rfl) d_Fo_split_74 ?_
  refine Y_iload_n (pc := 77) hC d_Fo_split_77 rfl 1 rfl ?_
  obtain ⟨hbb, h⟩ := ck_some h
  exact Y_zret (pc := 78) hC hE d_Fo_split_78 hbb h
set_option maxHeartbeats 4000000 in
set_option maxRecDepth 100000 in
theorem ylp_Fo_settle_2 {C : YC} {r : Int32} {V' : Sto} {x1 : Int32} {k46 : Sto → RT} (hC : YF C R_Fo b_Fo_settle 3 rm_Fo_settle) (hw : YWr C shpC) (hE : YEv C shpC V') (hk46 : ∀ (V1 : Sto), k46 V1 = some (r, V') → Y C shpC 3 46 [(0, .ref (C.a 8))] [] V1) : ∀ (n : Nat) (x2 : Int32) (V : Sto), lp_Fo_settle_2 x1 k46 n x2 V = some (r, V') → Y C shpC 3 2 [(0, .ref (C.a 8)), (1, .int x1), (2, .int x2)] [] V := by
  intro n
  induction n with
  | zero =>
    intro x2 V h
    rw [lp_Fo_settle_2] at h
    cases h
  | succ n ih =>
    intro x2 V h
    rw [lp_Fo_settle_2] at h
    refine Y_iload_n (pc := 2) hC d_Fo_settle_2 rfl 2 rfl ?_
    refine Y_aload_n (pc := 3) hC d_Fo_settle_3 rfl 0 rfl ?_
    refine Y_getR (pc := 4) hC sc_8 fl_Fo_18 rfl d_Fo_settle_4 ?_
    refine Y_getI (pc := 7) hC sc_2 fl_Fo_34 rfl d_Fo_settle_7 ?_
    refine Y_icmp_ge (pc := 10) hC 46 d_Fo_settle_10 rfl (fun cc_10 => ?_) (fun cc_10 => ?_)
    · have h := ifp cc_10 h
      refine Y_sub (pc := 46) [0] rfl ?_
      exact hk46 _ h
    · have h := ifn cc_10 h
      refine Y_aload_n (pc := 13) hC d_Fo_settle_13 rfl 0 rfl ?_
      refine Y_getR (pc := 14) hC sc_8 fl_Fo_9 rfl d_Fo_settle_14 ?_
      refine Y_iload_n (pc := 17) hC d_Fo_settle_17 rfl 2 rfl ?_
      refine Y_iload_n (pc := 18) hC d_Fo_settle_18 rfl 1 rfl ?_
      refine Y_if_eq (pc := 19) hC 38 d_Fo_settle_19 rfl (fun cc_19 => ?_) (fun cc_19 => ?_)
      · have h := ifp cc_19 h
        refine Y_iload_n (pc := 38) hC d_Fo_settle_38 rfl 2 rfl ?_
        obtain ⟨hi, h⟩ := ck_some h
        obtain ⟨V1, hV1, h⟩ := nm_some h
        refine Y_iast (pc := 39) hC sc_46 (by decide) rfl hi hw rfl hV1 d_Fo_settle_39 ?_
        refine Y_iinc (pc := 40) hC (v := x2 + 1) (L' := [(2, .int (x2 + 1)), (0, .ref (C.a 8)), (1, .int x1)]) d_Fo_settle_40 2 rfl rfl (by decide) rfl ?_
        refine Y_goto (pc := 43) hC 2 d_Fo_settle_43 rfl ?_
        refine Y_sub (pc := 2) [1, 2, 0] rfl ?_
        exact ih _ _ h
      · have h := ifn cc_19 h
        refine Y_aload_n (pc := 22) hC d_Fo_settle_22 rfl 0 rfl ?_
        refine Y_iload_n (pc := 23) hC d_Fo_settle_23 rfl 2 rfl ?_
        obtain ⟨r1, V2, hc_r1, h⟩ := cl_some h
        refine Y_callV (pc := 24) hC (c_Fo_mayFold C.l C.D C.cI C.cZ C.a hc_r1) (fun q => nomatch q) sc_8 cls_Fo ml_Fo_40 mv_Fo_mayFold (by decide) (Nat.le_of_ble_eq_true rfl) rfl d_Fo_settle_24 ?_
        refine Y_if_eq (pc := 27) hC 38 d_Fo_settle_27 rfl (fun cc_27 => ?_) (fun cc_27 => ?_)
        · have h := ifp cc_27 h
          refine Y_iload_n (pc := 38) hC d_Fo_settle_38 rfl 2 rfl ?_
          obtain ⟨hi, h⟩ := ck_some h
          obtain ⟨V3, hV3, h⟩ := nm_some h
          refine Y_iast (pc := 39) hC sc_46 (by decide) rfl hi hw rfl hV3 d_Fo_settle_39 ?_
          refine Y_iinc (pc := 40) hC (v := x2 + 1) (L' := [(2, .int (x2 + 1)), (0, .ref (C.a 8)), (1, .int x1)]) d_Fo_settle_40 2 rfl rfl (by decide) rfl ?_
          refine Y_goto (pc := 43) hC 2 d_Fo_settle_43 rfl ?_
          refine Y_sub (pc := 2) [1, 2, 0] rfl ?_
          exact ih _ _ h
        · have h := ifn cc_27 h
          refine Y_aload_n (pc := 30) hC d_Fo_settle_30 rfl 0 rfl ?_
          refine Y_iload_n (pc := 31) hC d_Fo_settle_31 rfl 2 rfl ?_
          obtain ⟨r2, V4, hc_r2, h⟩ := cl_some h
          refine Y_callV (pc := 32) hC (c_Fo_firstOfSameLook C.l C.D C.cI C.cZ C.a hc_r2) (fun q => nomatch q) sc_8 cls_Fo ml_Fo_44 mv_Fo_firstOfSameLook (by decide) (Nat.le_of_ble_eq_true rfl) rfl d_Fo_settle_32 ?_
          refine Y_goto (pc := 35) hC 39 d_Fo_settle_35 rfl ?_
          obtain ⟨hi, h⟩ := ck_some h
          obtain ⟨V5, hV5, h⟩ := nm_some h
          refine Y_iast (pc := 39) hC sc_46 (by decide) rfl hi hw rfl hV5 d_Fo_settle_39 ?_
          refine Y_iinc (pc := 40) hC (v := x2 + 1) (L' := [(2, .int (x2 + 1)), (0, .ref (C.a 8)), (1, .int x1)]) d_Fo_settle_40 2 rfl rfl (by decide) rfl ?_
          refine Y_goto (pc := 43) hC 2 d_Fo_settle_43 rfl ?_
          refine Y_sub (pc := 2) [1, 2, 0] rfl ?_
          exact ih _ _ h
set_option maxHeartbeats 4000000 in
set_option maxRecDepth 100000 in
theorem ylp_Fo_settle_48 {C : YC} {r : Int32} {V' : Sto} {k70 : Sto → RT} (hC : YF C R_Fo b_Fo_settle 3 rm_Fo_settle) (hw : YWr C shpC) (hE : YEv C shpC V') (hk70 : ∀ (V1 : Sto), k70 V1 = some (r, V') → Y C shpC 3 70 [] [] V1) : ∀ (n : Nat) (x2 : Int32) (V : Sto), lp_Fo_settle_48 k70 n x2 V = some (r, V') → Y C shpC 3 48 [(0, .ref (C.a 8)), (2, .int x2)] [] V := by
  intro n
  induction n with
  | zero =>
    intro x2 V h
    rw [lp_Fo_settle_48] at h
    cases h
  | succ n ih =>
    intro x2 V h
    rw [lp_Fo_settle_48] at h
    refine Y_iload_n (pc := 48) hC d_Fo_settle_48 rfl 1 rfl ?_
    refine Y_bipush (pc := 49) hC d_Fo_settle_49 kb_96 ?_
    refine Y_icmp_ge (pc := 51) hC 70 d_Fo_settle_51 rfl (fun cc_51 => ?_) (fun cc_51 => ?_)
    · have h := ifp cc_51 h
      refine Y_sub (pc := 70) [] rfl ?_
      exact hk70 _ h
    · have h := ifn cc_51 h
      refine Y_aload_n (pc := 54) hC d_Fo_settle_54 rfl 0 rfl ?_
      obtain ⟨r3, V7, hc_r3, h⟩ := cl_some h
      refine Y_callV (pc := 55) hC (c_Fo_split C.l C.D C.cI C.cZ C.a hc_r3) (fun _ => hw) sc_8 cls_Fo ml_Fo_48 mv_Fo_split (by decide) (Nat.le_of_ble_eq_true rfl) rfl d_Fo_settle_55 ?_
      refine Y_if_ne (pc := 58) hC 64 d_Fo_settle_58 rfl (fun cc_58 => ?_) (fun cc_58 => ?_)
      · have h := ifn cc_58 h
        refine Y_iinc (pc := 64) hC (v := x2 + 1) (L' := [(2, .int (x2 + 1)), (0, .ref (C.a 8))]) d_Fo_settle_64 1 rfl rfl (by decide) rfl ?_
        refine Y_goto (pc := 67) hC 48 d_Fo_settle_67 rfl ?_
        refine Y_sub (pc := 48) [1, 0] rfl ?_
        exact ih _ _ h
      · have h := ifp cc_58 h
        refine Y_goto (pc := 61) hC 70 d_Fo_settle_61 rfl ?_
        refine Y_sub (pc := 70) [] rfl ?_
        exact hk70 _ h
set_option maxHeartbeats 4000000 in
set_option maxRecDepth 100000 in
theorem c_Fo_settle (l : Launch) (D : va_G) (cI cZ : ClassId) (a : Nat → Nat) {V : Sto} {p1 : Int32} {r : Int32} {V' : Sto} (h : f_Fo_settle V p1 = some (r, V')) : YMv l D cI cZ a shpC y_Fo_settle b_Fo_settle 3 rm_Fo_settle true [.ref (a 8), .int p1] V V' := by
  refine YMv_of (by decide) (Nat.le_of_ble_eq_true rfl) ?_
  intro C hl hDD hcI hcZ ha hC hw hE
  subst hl hDD hcI hcZ ha
  show Y C shpC 3 0 [(0, .ref (C.a 8)), (1, .int p1)] [] V
  have hw := hw rfl
  rw [f_Fo_settle] at h
  refine Y_iconst (pc := 0) hC d_Fo_settle_0 ki_0 ?_
  refine Y_istore_n (pc := 1) hC (L' := [(2, .int 0), (0, .ref (C.a 8)), (1, .int p1)]) d_Fo_settle_1 rfl (by decide) rfl ?_
  refine Y_sub (pc := 2) [1, 2, 0] rfl ?_
  refine ylp_Fo_settle_2 hC hw hE (fun V6 h => ?_) FU _ _ h
  refine Y_iconst (pc := 46) hC d_Fo_settle_46 ki_0 ?_
  refine Y_istore_n (pc := 47) hC (L' := [(2, .int 0), (0, .ref (C.a 8))]) d_Fo_settle_47 rfl (by decide) rfl ?_
  refine Y_sub (pc := 48) [1, 0] rfl ?_
  refine ylp_Fo_settle_48 hC hw hE (fun V8 h => ?_) FU _ _ h
  exact Y_vret (pc := 70) hC hE d_Fo_settle_70 h
set_option maxHeartbeats 4000000 in
set_option maxRecDepth 100000 in
theorem c_Is_placeOf (l : Launch) (D : va_G) (cI cZ : ClassId) (a : Nat → Nat) {V : Sto} {p1 : Int32} {r : Int32} {V' : Sto} (h : f_Is_placeOf V p1 = some (r, V')) : YMi l D cI cZ a shpC y_Is_placeOf b_Is_placeOf 2 (some .int) rm_Is_placeOf false [.ref (a 10), .int p1] V r V' := by
  refine YMi_of (by decide) (Nat.le_of_ble_eq_true rfl) ?_
  intro C hl hDD hcI hcZ ha hC hw hE
  subst hl hDD hcI hcZ ha
  show Y C shpC 2 0 [(0, .ref (C.a 10)), (1, .int p1)] [] V
  rw [f_Is_placeOf] at h
  refine Y_aload_n (pc := 0) hC d_Is_placeOf_0 rfl 0 rfl ?_
  refine Y_getR (pc := 1) hC sc_10 fl_Is_40 rfl d_Is_placeOf_1 ?_
  refine Y_getR (pc := 4) hC sc_9 fl_Is_128 rfl d_Is_placeOf_4 ?_
  refine Y_aload_n (pc := 7) hC d_Is_placeOf_7 rfl 0 rfl ?_
  refine Y_getR (pc := 8) hC sc_10 fl_Is_28 rfl d_Is_placeOf_8 ?_
  refine Y_getR (pc := 11) hC sc_4 fl_Is_88 rfl d_Is_placeOf_11 ?_
  refine Y_iload_n (pc := 14) hC d_Is_placeOf_14 rfl 1 rfl ?_
  obtain ⟨hi, h⟩ := ck_some h
  refine Y_iald (pc := 15) hC sc_27 rfl hi d_Is_placeOf_15 ?_
  obtain ⟨hi, h⟩ := ck_some h
  refine Y_iald (pc := 16) hC sc_48 rfl hi d_Is_placeOf_16 ?_
  refine Y_aload_n (pc := 17) hC d_Is_placeOf_17 rfl 0 rfl ?_
  refine Y_getR (pc := 18) hC sc_10 fl_Is_28 rfl d_Is_placeOf_18 ?_
  refine Y_getR (pc := 21) hC sc_4 fl_Is_131 rfl d_Is_placeOf_21 ?_
  refine Y_iload_n (pc := 24) hC d_Is_placeOf_24 rfl 1 rfl ?_
  obtain ⟨hi, h⟩ := ck_some h
  refine Y_iald (pc := 25) hC sc_28 rfl hi d_Is_placeOf_25 ?_
  refine Y_iadd (pc := 26) hC d_Is_placeOf_26 ?_
  exact Y_iret (pc := 27) hC hE d_Is_placeOf_27 h
set_option maxHeartbeats 4000000 in
set_option maxRecDepth 100000 in
theorem c_Is_isNear (l : Launch) (D : va_G) (cI cZ : ClassId) (a : Nat → Nat) {V : Sto} {p1 : Int32} {p2 : Int32} {r : Int32} {V' : Sto} (h : f_Is_isNear V p1 p2 = some (r, V')) : YMi l D cI cZ a shpC y_Is_isNear b_Is_isNear 5 (some .boolean) rm_Is_isNear false [.ref (a 10), .int p1, .int p2] V r V' := by
  refine YMi_of (by decide) (Nat.le_of_ble_eq_true rfl) ?_
  intro C hl hDD hcI hcZ ha hC hw hE
  subst hl hDD hcI hcZ ha
  show Y C shpC 5 0 [(0, .ref (C.a 10)), (1, .int p1), (2, .int p2)] [] V
  rw [f_Is_isNear] at h
  refine Y_iload_n (pc := 0) hC d_Is_isNear_0 rfl 2 rfl ?_
  refine Y_i2l (pc := 1) hC d_Is_isNear_1 ?_
  refine Y_aload_n (pc := 2) hC d_Is_isNear_2 rfl 0 rfl ?_
  refine Y_iload_n (pc := 3) hC d_Is_isNear_3 rfl 1 rfl ?_
  obtain ⟨r1, V1, hc_r1, h⟩ := cl_some h
  refine Y_callV (pc := 4) hC (c_Is_placeOf C.l C.D C.cI C.cZ C.a hc_r1) (fun q => nomatch q) sc_10 cls_Is ml_Is_137 mv_Is_placeOf (by decide) (Nat.le_of_ble_eq_true rfl) rfl d_Is_isNear_4 ?_
  refine Y_i2l (pc := 7) hC d_Is_isNear_7 ?_
  refine Y_lsub (pc := 8) hC d_Is_isNear_8 ?_
  refine Y_ldc2 (pc := 9) hC kd_Is_140 d_Is_isNear_9 ?_
  refine Y_lsub (pc := 12) hC d_Is_isNear_12 ?_
  refine Y_lstore_n (pc := 13) hC (L' := [(3, .long ((p2.toInt64 - r1.toInt64) - 4)), (0, .ref (C.a 10)), (1, .int p1), (2, .int p2)]) d_Is_isNear_13 rfl (by decide) rfl ?_
  refine Y_lload_n (pc := 14) hC d_Is_isNear_14 rfl 0 rfl ?_
  refine Y_ldc2 (pc := 15) hC kd_Is_140 d_Is_isNear_15 ?_
  refine Y_lrem (pc := 18) hC d_Is_isNear_18 (by decide) ?_
  refine Y_lconst (pc := 19) hC d_Is_isNear_19 (v := 0) rfl ?_
  refine Y_lcmp (pc := 20) hC d_Is_isNear_20 ?_
  refine Y_if_ne (pc := 21) hC 44 d_Is_isNear_21 rfl (fun cc_21 => ?_) (fun cc_21 => ?_)
  · have h := ifn cc_21 h
    refine Y_iconst (pc := 44) hC d_Is_isNear_44 ki_0 ?_
    exact Y_zret (pc := 45) hC hE d_Is_isNear_45 rfl h
  · have h := ifp cc_21 h
    refine Y_lload_n (pc := 24) hC d_Is_isNear_24 rfl 0 rfl ?_
    refine Y_ldc2 (pc := 25) hC kd_Is_142 d_Is_isNear_25 ?_
    refine Y_lcmp (pc := 28) hC d_Is_isNear_28 ?_
    refine Y_if_lt (pc := 29) hC 44 d_Is_isNear_29 rfl (fun cc_29 => ?_) (fun cc_29 => ?_)
    · have h := ifp cc_29 h
      refine Y_iconst (pc := 44) hC d_Is_isNear_44 ki_0 ?_
      exact Y_zret (pc := 45) hC hE d_Is_isNear_45 rfl h
    · have h := ifn cc_29 h
      refine Y_lload_n (pc := 32) hC d_Is_isNear_32 rfl 0 rfl ?_
      refine Y_ldc2 (pc := 33) hC kd_Is_144 d_Is_isNear_33 ?_
      refine Y_lcmp (pc := 36) hC d_Is_isNear_36 ?_
      refine Y_if_gt (pc := 37) hC 44 d_Is_isNear_37 rfl (fun cc_37 => ?_) (fun cc_37 => ?_)
      · have h := ifp cc_37 h
        refine Y_iconst (pc := 44) hC d_Is_isNear_44 ki_0 ?_
        exact Y_zret (pc := 45) hC hE d_Is_isNear_45 rfl h
      · have h := ifn cc_37 h
        refine Y_iconst (pc := 40) hC d_Is_isNear_40 ki_1 ?_
        refine Y_goto (pc := 41) hC 45 d_Is_isNear_41 rfl ?_
        exact Y_zret (pc := 45) hC hE d_Is_isNear_45 rfl h
set_option maxHeartbeats 4000000 in
set_option maxRecDepth 100000 in
theorem c_Fo_isFolded (l : Launch) (D : va_G) (cI cZ : ClassId) (a : Nat → Nat) {V : Sto} {p1 : Int32} {r : Int32} {V' : Sto} (h : f_Fo_isFolded V p1 = some (r, V')) : YMi l D cI cZ a shpC y_Fo_isFolded b_Fo_isFolded 2 (some .boolean) rm_Fo_isFolded false [.ref (a 8), .int p1] V r V' := by
  refine YMi_of (by decide) (Nat.le_of_ble_eq_true rfl) ?_
  intro C hl hDD hcI hcZ ha hC hw hE
  subst hl hDD hcI hcZ ha
  show Y C shpC 2 0 [(0, .ref (C.a 8)), (1, .int p1)] [] V
  rw [f_Fo_isFolded] at h
  refine Y_aload_n (pc := 0) hC d_Fo_isFolded_0 rfl 0 rfl ?_
  refine Y_getR (pc := 1) hC sc_8 fl_Fo_9 rfl d_Fo_isFolded_1 ?_
  refine Y_iload_n (pc := 4) hC d_Fo_isFolded_4 rfl 1 rfl ?_
  obtain ⟨hi, h⟩ := ck_some h
  refine Y_iald (pc := 5) hC sc_46 rfl hi d_Fo_isFolded_5 ?_
  refine Y_iload_n (pc := 6) hC d_Fo_isFolded_6 rfl 1 rfl ?_
  refine Y_icmp_eq (pc := 7) hC 14 d_Fo_isFolded_7 rfl (fun cc_7 => ?_) (fun cc_7 => ?_)
  · have h := ifp cc_7 h
    refine Y_iconst (pc := 14) hC d_Fo_isFolded_14 ki_0 ?_
    exact Y_zret (pc := 15) hC hE d_Fo_isFolded_15 rfl h
  · have h := ifn cc_7 h
    refine Y_iconst (pc := 10) hC d_Fo_isFolded_10 ki_1 ?_
    refine Y_goto (pc := 11) hC 15 d_Fo_isFolded_11 rfl ?_
    exact Y_zret (pc := 15) hC hE d_Fo_isFolded_15 rfl h
set_option maxHeartbeats 4000000 in
set_option maxRecDepth 100000 in
theorem c_La_isStanding (l : Launch) (D : va_G) (cI cZ : ClassId) (a : Nat → Nat) {V : Sto} {p1 : Int32} {r : Int32} {V' : Sto} (h : f_La_isStanding V p1 = some (r, V')) : YMi l D cI cZ a shpC y_La_isStanding b_La_isStanding 2 (some .boolean) rm_La_isStanding false [.ref (a 9), .int p1] V r V' := by
  refine YMi_of (by decide) (Nat.le_of_ble_eq_true rfl) ?_
  intro C hl hDD hcI hcZ ha hC hw hE
  subst hl hDD hcI hcZ ha
  show Y C shpC 2 0 [(0, .ref (C.a 9)), (1, .int p1)] [] V
  rw [f_La_isStanding] at h
  refine Y_aload_n (pc := 0) hC d_La_isStanding_0 rfl 0 rfl ?_
  refine Y_getR (pc := 1) hC sc_9 fl_La_26 rfl d_La_isStanding_1 ?_
  refine Y_getR (pc := 4) hC sc_7 fl_La_77 rfl d_La_isStanding_4 ?_
  refine Y_iload_n (pc := 7) hC d_La_isStanding_7 rfl 1 rfl ?_
  obtain ⟨hi, h⟩ := ck_some h
  refine Y_zald (pc := 8) hC sc_43 rfl hi d_La_isStanding_8 ?_
  refine Y_if_eq (pc := 9) hC 27 d_La_isStanding_9 rfl (fun cc_9 => ?_) (fun cc_9 => ?_)
  · have h := ifp cc_9 h
    refine Y_iconst (pc := 27) hC d_La_isStanding_27 ki_0 ?_
    exact Y_zret (pc := 28) hC hE d_La_isStanding_28 rfl h
  · have h := ifn cc_9 h
    refine Y_aload_n (pc := 12) hC d_La_isStanding_12 rfl 0 rfl ?_
    refine Y_getR (pc := 13) hC sc_9 fl_La_30 rfl d_La_isStanding_13 ?_
    refine Y_iload_n (pc := 16) hC d_La_isStanding_16 rfl 1 rfl ?_
    obtain ⟨r1, V1, hc_r1, h⟩ := cl_some h
    refine Y_callV (pc := 17) hC (c_Fo_isFolded C.l C.D C.cI C.cZ C.a hc_r1) (fun q => nomatch q) sc_8 cls_Fo ml_La_83 mv_Fo_isFolded (by decide) (Nat.le_of_ble_eq_true rfl) rfl d_La_isStanding_17 ?_
    refine Y_if_ne (pc := 20) hC 27 d_La_isStanding_20 rfl (fun cc_20 => ?_) (fun cc_20 => ?_)
    · have h := ifn cc_20 h
      refine Y_iconst (pc := 27) hC d_La_isStanding_27 ki_0 ?_
      exact Y_zret (pc := 28) hC hE d_La_isStanding_28 rfl h
    · have h := ifp cc_20 h
      refine Y_iconst (pc := 23) hC d_La_isStanding_23 ki_1 ?_
      refine Y_goto (pc := 24) hC 28 d_La_isStanding_24 rfl ?_
      exact Y_zret (pc := 28) hC hE d_La_isStanding_28 rfl h
set_option maxHeartbeats 4000000 in
set_option maxRecDepth 100000 in
theorem c_Is_mayGo (l : Launch) (D : va_G) (cI cZ : ClassId) (a : Nat → Nat) {V : Sto} {p1 : Int32} {r : Int32} {V' : Sto} (h : f_Is_mayGo V p1 = some (r, V')) : YMi l D cI cZ a shpC y_Is_mayGo b_Is_mayGo 3 (some .boolean) rm_Is_mayGo false [.ref (a 10), .int p1] V r V' := by
  refine YMi_of (by decide) (Nat.le_of_ble_eq_true rfl) ?_
  intro C hl hDD hcI hcZ ha hC hw hE
  subst hl hDD hcI hcZ ha
  show Y C shpC 3 0 [(0, .ref (C.a 10)), (1, .int p1)] [] V
  rw [f_Is_mayGo] at h
  refine Y_aload_n (pc := 0) hC d_Is_mayGo_0 rfl 0 rfl ?_
  refine Y_getR (pc := 1) hC sc_10 fl_Is_28 rfl d_Is_mayGo_1 ?_
  refine Y_getR (pc := 4) hC sc_4 fl_Is_88 rfl d_Is_mayGo_4 ?_
  refine Y_iload_n (pc := 7) hC d_Is_mayGo_7 rfl 1 rfl ?_
  obtain ⟨hi, h⟩ := ck_some h
  refine Y_iald (pc := 8) hC sc_27 rfl hi d_Is_mayGo_8 ?_
  refine Y_istore_n (pc := 9) hC (L' := [(2, .int (V 27 p1.toNatClampNeg)), (0, .ref (C.a 10)), (1, .int p1)]) d_Is_mayGo_9 rfl (by decide) rfl ?_
  refine Y_aload_n (pc := 10) hC d_Is_mayGo_10 rfl 1 rfl ?_
  refine Y_getR (pc := 11) hC sc_10 fl_Is_28 rfl d_Is_mayGo_11 ?_
  refine Y_getR (pc := 14) hC sc_4 fl_Is_91 rfl d_Is_mayGo_14 ?_
  refine Y_iload_n (pc := 17) hC d_Is_mayGo_17 rfl 2 rfl ?_
  obtain ⟨hi, h⟩ := ck_some h
  refine Y_iald (pc := 18) hC sc_29 rfl hi d_Is_mayGo_18 ?_
  refine Y_iconst (pc := 19) hC d_Is_mayGo_19 ki_4 ?_
  refine Y_icmp_ne (pc := 20) hC 50 d_Is_mayGo_20 rfl (fun cc_20 => ?_) (fun cc_20 => ?_)
  · have h := ifn cc_20 h
    refine Y_iconst (pc := 50) hC d_Is_mayGo_50 ki_0 ?_
    exact Y_zret (pc := 51) hC hE d_Is_mayGo_51 rfl h
  · have h := ifp cc_20 h
    refine Y_aload_n (pc := 23) hC d_Is_mayGo_23 rfl 1 rfl ?_
    refine Y_getR (pc := 24) hC sc_10 fl_Is_24 rfl d_Is_mayGo_24 ?_
    refine Y_getR (pc := 27) hC sc_2 fl_Is_94 rfl d_Is_mayGo_27 ?_
    refine Y_iload_n (pc := 30) hC d_Is_mayGo_30 rfl 0 rfl ?_
    obtain ⟨hi, h⟩ := ck_some h
    refine Y_iald (pc := 31) hC sc_16 rfl hi d_Is_mayGo_31 ?_
    refine Y_if_ne (pc := 32) hC 50 d_Is_mayGo_32 rfl (fun cc_32 => ?_) (fun cc_32 => ?_)
    · have h := ifn cc_32 h
      refine Y_iconst (pc := 50) hC d_Is_mayGo_50 ki_0 ?_
      exact Y_zret (pc := 51) hC hE d_Is_mayGo_51 rfl h
    · have h := ifp cc_32 h
      refine Y_aload_n (pc := 35) hC d_Is_mayGo_35 rfl 1 rfl ?_
      refine Y_getR (pc := 36) hC sc_10 fl_Is_40 rfl d_Is_mayGo_36 ?_
      refine Y_iload_n (pc := 39) hC d_Is_mayGo_39 rfl 0 rfl ?_
      obtain ⟨r1, V1, hc_r1, h⟩ := cl_some h
      refine Y_callV (pc := 40) hC (c_La_isStanding C.l C.D C.cI C.cZ C.a hc_r1) (fun q => nomatch q) sc_9 cls_La ml_Is_99 mv_La_isStanding (by decide) (Nat.le_of_ble_eq_true rfl) rfl d_Is_mayGo_40 ?_
      refine Y_if_eq (pc := 43) hC 50 d_Is_mayGo_43 rfl (fun cc_43 => ?_) (fun cc_43 => ?_)
      · have h := ifp cc_43 h
        refine Y_iconst (pc := 50) hC d_Is_mayGo_50 ki_0 ?_
        exact Y_zret (pc := 51) hC hE d_Is_mayGo_51 rfl h
      · have h := ifn cc_43 h
        refine Y_iconst (pc := 46) hC d_Is_mayGo_46 ki_1 ?_
        refine Y_goto (pc := 47) hC 51 d_Is_mayGo_47 rfl ?_
        exact Y_zret (pc := 51) hC hE d_Is_mayGo_51 rfl h
set_option maxHeartbeats 4000000 in
set_option maxRecDepth 100000 in
theorem c_La_startOf (l : Launch) (D : va_G) (cI cZ : ClassId) (a : Nat → Nat) {V : Sto} {p1 : Int32} {p2 : Int32} {r : Int32} {V' : Sto} (h : f_La_startOf V p1 p2 = some (r, V')) : YMi l D cI cZ a shpC y_La_startOf b_La_startOf 3 (some .int) rm_La_startOf false [.ref (a 9), .int p1, .int p2] V r V' := by
  refine YMi_of (by decide) (Nat.le_of_ble_eq_true rfl) ?_
  intro C hl hDD hcI hcZ ha hC hw hE
  subst hl hDD hcI hcZ ha
  show Y C shpC 3 0 [(0, .ref (C.a 9)), (1, .int p1), (2, .int p2)] [] V
  rw [f_La_startOf] at h
  refine Y_iload_n (pc := 0) hC d_La_startOf_0 rfl 1 rfl ?_
  by_cases cs_1_0 : p1 = 1
  · have h := ifp cs_1_0 h
    refine Y_lookup (pc := 1) hC (off := 27) 28 d_La_startOf_1 (by decide) (by rw [cs_1_0]; try rfl) rfl ?_
    refine Y_aload_n (pc := 28) hC d_La_startOf_28 rfl 0 rfl ?_
    refine Y_getR (pc := 29) hC sc_9 fl_La_9 rfl d_La_startOf_29 ?_
    refine Y_iload_n (pc := 32) hC d_La_startOf_32 rfl 2 rfl ?_
    obtain ⟨hi, h⟩ := ck_some h
    refine Y_iald (pc := 33) hC sc_48 rfl hi d_La_startOf_33 ?_
    exact Y_iret (pc := 34) hC hE d_La_startOf_34 h
  · have h := ifn cs_1_0 h
    by_cases cs_1_1 : p1 = 3
    · have h := ifp cs_1_1 h
      refine Y_lookup (pc := 1) hC (off := 34) 35 d_La_startOf_1 (by decide) (by rw [cs_1_1]; try rfl) rfl ?_
      refine Y_aload_n (pc := 35) hC d_La_startOf_35 rfl 0 rfl ?_
      refine Y_getR (pc := 36) hC sc_9 fl_La_15 rfl d_La_startOf_36 ?_
      refine Y_iload_n (pc := 39) hC d_La_startOf_39 rfl 2 rfl ?_
      obtain ⟨hi, h⟩ := ck_some h
      refine Y_iald (pc := 40) hC sc_49 rfl hi d_La_startOf_40 ?_
      exact Y_iret (pc := 41) hC hE d_La_startOf_41 h
    · have h := ifn cs_1_1 h
      have cn_0 := i32_ne cs_1_0
      have cn_1 := i32_ne cs_1_1
      simp only [i32lit_1, i32lit_3] at cn_0 cn_1
      refine Y_lookup (pc := 1) hC (off := 41) 42 d_La_startOf_1 (by decide) (by simp [Op.lookupswitch.offset, Ne.symm cn_0, cn_0, Ne.symm cn_1, cn_1]) rfl ?_
      refine Y_iconst (pc := 42) hC d_La_startOf_42 ki_0 ?_
      exact Y_iret (pc := 43) hC hE d_La_startOf_43 h
set_option maxHeartbeats 4000000 in
set_option maxRecDepth 100000 in
theorem c_La_addressOf (l : Launch) (D : va_G) (cI cZ : ClassId) (a : Nat → Nat) {V : Sto} {p1 : Int32} {r : Int32} {V' : Sto} (h : f_La_addressOf V p1 = some (r, V')) : YMi l D cI cZ a shpC y_La_addressOf b_La_addressOf 2 (some .int) rm_La_addressOf false [.ref (a 9), .int p1] V r V' := by
  refine YMi_of (by decide) (Nat.le_of_ble_eq_true rfl) ?_
  intro C hl hDD hcI hcZ ha hC hw hE
  subst hl hDD hcI hcZ ha
  show Y C shpC 2 0 [(0, .ref (C.a 9)), (1, .int p1)] [] V
  rw [f_La_addressOf] at h
  refine Y_aload_n (pc := 0) hC d_La_addressOf_0 rfl 0 rfl ?_
  refine Y_aload_n (pc := 1) hC d_La_addressOf_1 rfl 0 rfl ?_
  refine Y_getR (pc := 2) hC sc_9 fl_La_22 rfl d_La_addressOf_2 ?_
  refine Y_getR (pc := 5) hC sc_6 fl_La_98 rfl d_La_addressOf_5 ?_
  refine Y_iload_n (pc := 8) hC d_La_addressOf_8 rfl 1 rfl ?_
  obtain ⟨hi, h⟩ := ck_some h
  refine Y_iald (pc := 9) hC sc_40 rfl hi d_La_addressOf_9 ?_
  refine Y_aload_n (pc := 10) hC d_La_addressOf_10 rfl 0 rfl ?_
  refine Y_getR (pc := 11) hC sc_9 fl_La_22 rfl d_La_addressOf_11 ?_
  refine Y_getR (pc := 14) hC sc_6 fl_La_101 rfl d_La_addressOf_14 ?_
  refine Y_iload_n (pc := 17) hC d_La_addressOf_17 rfl 1 rfl ?_
  obtain ⟨hi, h⟩ := ck_some h
  refine Y_iald (pc := 18) hC sc_41 rfl hi d_La_addressOf_18 ?_
  obtain ⟨r1, V1, hc_r1, h⟩ := cl_some h
  refine Y_callV (pc := 19) hC (c_La_startOf C.l C.D C.cI C.cZ C.a hc_r1) (fun q => nomatch q) sc_9 cls_La ml_La_104 mv_La_startOf (by decide) (Nat.le_of_ble_eq_true rfl) rfl d_La_addressOf_19 ?_
  refine Y_aload_n (pc := 22) hC d_La_addressOf_22 rfl 0 rfl ?_
  refine Y_getR (pc := 23) hC sc_9 fl_La_22 rfl d_La_addressOf_23 ?_
  refine Y_getR (pc := 26) hC sc_6 fl_La_107 rfl d_La_addressOf_26 ?_
  refine Y_iload_n (pc := 29) hC d_La_addressOf_29 rfl 1 rfl ?_
  obtain ⟨hi, h⟩ := ck_some h
  refine Y_iald (pc := 30) hC sc_42 rfl hi d_La_addressOf_30 ?_
  refine Y_iadd (pc := 31) hC d_La_addressOf_31 ?_
  exact Y_iret (pc := 32) hC hE d_La_addressOf_32 h
set_option maxHeartbeats 4000000 in
set_option maxRecDepth 100000 in
theorem c_Is_targetOf (l : Launch) (D : va_G) (cI cZ : ClassId) (a : Nat → Nat) {V : Sto} {p1 : Int32} {r : Int32} {V' : Sto} (h : f_Is_targetOf V p1 = some (r, V')) : YMi l D cI cZ a shpC y_Is_targetOf b_Is_targetOf 2 (some .int) rm_Is_targetOf false [.ref (a 10), .int p1] V r V' := by
  refine YMi_of (by decide) (Nat.le_of_ble_eq_true rfl) ?_
  intro C hl hDD hcI hcZ ha hC hw hE
  subst hl hDD hcI hcZ ha
  show Y C shpC 2 0 [(0, .ref (C.a 10)), (1, .int p1)] [] V
  rw [f_Is_targetOf] at h
  refine Y_aload_n (pc := 0) hC d_Is_targetOf_0 rfl 0 rfl ?_
  refine Y_getR (pc := 1) hC sc_10 fl_Is_40 rfl d_Is_targetOf_1 ?_
  refine Y_aload_n (pc := 4) hC d_Is_targetOf_4 rfl 0 rfl ?_
  refine Y_getR (pc := 5) hC sc_10 fl_Is_28 rfl d_Is_targetOf_5 ?_
  refine Y_getR (pc := 8) hC sc_4 fl_Is_108 rfl d_Is_targetOf_8 ?_
  refine Y_iload_n (pc := 11) hC d_Is_targetOf_11 rfl 1 rfl ?_
  obtain ⟨hi, h⟩ := ck_some h
  refine Y_iald (pc := 12) hC sc_30 rfl hi d_Is_targetOf_12 ?_
  obtain ⟨r1, V1, hc_r1, h⟩ := cl_some h
  refine Y_callV (pc := 13) hC (c_La_addressOf C.l C.D C.cI C.cZ C.a hc_r1) (fun q => nomatch q) sc_9 cls_La ml_Is_125 mv_La_addressOf (by decide) (Nat.le_of_ble_eq_true rfl) rfl d_Is_targetOf_13 ?_
  refine Y_aload_n (pc := 16) hC d_Is_targetOf_16 rfl 0 rfl ?_
  refine Y_getR (pc := 17) hC sc_10 fl_Is_28 rfl d_Is_targetOf_17 ?_
  refine Y_getR (pc := 20) hC sc_4 fl_Is_122 rfl d_Is_targetOf_20 ?_
  refine Y_iload_n (pc := 23) hC d_Is_targetOf_23 rfl 1 rfl ?_
  obtain ⟨hi, h⟩ := ck_some h
  refine Y_iald (pc := 24) hC sc_31 rfl hi d_Is_targetOf_24 ?_
  refine Y_iadd (pc := 25) hC d_Is_targetOf_25 ?_
  exact Y_iret (pc := 26) hC hE d_Is_targetOf_26 h
set_option maxHeartbeats 4000000 in
set_option maxRecDepth 100000 in
theorem ylp_Is_firstStranded_2 {C : YC} {r : Int32} {V' : Sto} {k54 : Int32 → Sto → RT} {k62 : Sto → RT} (hC : YF C R_Is b_Is_firstStranded 3 rm_Is_firstStranded) (hE : YEi C .int shpC r V') (hk54 : ∀ (y2 : Int32) (V1 : Sto), k54 y2 V1 = some (r, V') → Y C shpC 3 54 [(2, .int y2)] [] V1) (hk62 : ∀ (V1 : Sto), k62 V1 = some (r, V') → Y C shpC 3 62 [] [] V1) : ∀ (n : Nat) (x1 : Int32) (V : Sto), lp_Is_firstStranded_2 k54 k62 n x1 V = some (r, V') → Y C shpC 3 2 [(0, .ref (C.a 10)), (1, .int x1)] [] V := by
  intro n
  induction n with
  | zero =>
    intro x1 V h
    rw [lp_Is_firstStranded_2] at h
    cases h
  | succ n ih =>
    intro x1 V h
    rw [lp_Is_firstStranded_2] at h
    refine Y_iload_n (pc := 2) hC d_Is_firstStranded_2 rfl 1 rfl ?_
    refine Y_aload_n (pc := 3) hC d_Is_firstStranded_3 rfl 0 rfl ?_
    refine Y_getR (pc := 4) hC sc_10 fl_Is_28 rfl d_Is_firstStranded_4 ?_
    refine Y_getI (pc := 7) hC sc_4 fl_Is_71 rfl d_Is_firstStranded_7 ?_
    refine Y_icmp_ge (pc := 10) hC 62 d_Is_firstStranded_10 rfl (fun cc_10 => ?_) (fun cc_10 => ?_)
    · have h := ifp cc_10 h
      refine Y_sub (pc := 62) [] rfl ?_
      exact hk62 _ h
    · have h := ifn cc_10 h
      refine Y_aload_n (pc := 13) hC d_Is_firstStranded_13 rfl 0 rfl ?_
      refine Y_getR (pc := 14) hC sc_10 fl_Is_28 rfl d_Is_firstStranded_14 ?_
      refine Y_getR (pc := 17) hC sc_4 fl_Is_74 rfl d_Is_firstStranded_17 ?_
      refine Y_iload_n (pc := 20) hC d_Is_firstStranded_20 rfl 1 rfl ?_
      obtain ⟨hi, h⟩ := ck_some h
      refine Y_iald (pc := 21) hC sc_32 rfl hi d_Is_firstStranded_21 ?_
      refine Y_istore_n (pc := 22) hC (L' := [(2, .int (V 32 x1.toNatClampNeg)), (0, .ref (C.a 10)), (1, .int x1)]) d_Is_firstStranded_22 rfl (by decide) rfl ?_
      refine Y_aload_n (pc := 23) hC d_Is_firstStranded_23 rfl 1 rfl ?_
      refine Y_getR (pc := 24) hC sc_10 fl_Is_21 rfl d_Is_firstStranded_24 ?_
      refine Y_iload_n (pc := 27) hC d_Is_firstStranded_27 rfl 0 rfl ?_
      obtain ⟨hi, h⟩ := ck_some h
      refine Y_iald (pc := 28) hC sc_53 rfl hi d_Is_firstStranded_28 ?_
      refine Y_iconst (pc := 29) hC d_Is_firstStranded_29 ki_m1 ?_
      refine Y_icmp_ne (pc := 30) hC 56 d_Is_firstStranded_30 rfl (fun cc_30 => ?_) (fun cc_30 => ?_)
      · have h := ifn cc_30 h
        refine Y_iinc (pc := 56) hC (v := x1 + 1) (L' := [(1, .int (x1 + 1)), (2, .int (V 32 x1.toNatClampNeg)), (0, .ref (C.a 10))]) d_Is_firstStranded_56 2 rfl rfl (by decide) rfl ?_
        refine Y_goto (pc := 59) hC 2 d_Is_firstStranded_59 rfl ?_
        refine Y_sub (pc := 2) [2, 0] rfl ?_
        exact ih _ _ h
      · have h := ifp cc_30 h
        refine Y_aload_n (pc := 33) hC d_Is_firstStranded_33 rfl 1 rfl ?_
        refine Y_iload_n (pc := 34) hC d_Is_firstStranded_34 rfl 0 rfl ?_
        obtain ⟨r1, V1, hc_r1, h⟩ := cl_some h
        refine Y_callV (pc := 35) hC (c_Is_mayGo C.l C.D C.cI C.cZ C.a hc_r1) (fun q => nomatch q) sc_10 cls_Is ml_Is_77 mv_Is_mayGo (by decide) (Nat.le_of_ble_eq_true rfl) rfl d_Is_firstStranded_35 ?_
        refine Y_if_eq (pc := 38) hC 56 d_Is_firstStranded_38 rfl (fun cc_38 => ?_) (fun cc_38 => ?_)
        · have h := ifp cc_38 h
          refine Y_iinc (pc := 56) hC (v := x1 + 1) (L' := [(1, .int (x1 + 1)), (2, .int (V 32 x1.toNatClampNeg)), (0, .ref (C.a 10))]) d_Is_firstStranded_56 2 rfl rfl (by decide) rfl ?_
          refine Y_goto (pc := 59) hC 2 d_Is_firstStranded_59 rfl ?_
          refine Y_sub (pc := 2) [2, 0] rfl ?_
          exact ih _ _ h
        · have h := ifn cc_38 h
          refine Y_aload_n (pc := 41) hC d_Is_firstStranded_41 rfl 1 rfl ?_
          refine Y_iload_n (pc := 42) hC d_Is_firstStranded_42 rfl 0 rfl ?_
          refine Y_aload_n (pc := 43) hC d_Is_firstStranded_43 rfl 1 rfl ?_
          refine Y_iload_n (pc := 44) hC d_Is_firstStranded_44 rfl 0 rfl ?_
          obtain ⟨r2, V2, hc_r2, h⟩ := cl_some h
          refine Y_callV (pc := 45) hC (c_Is_targetOf C.l C.D C.cI C.cZ C.a hc_r2) (fun q => nomatch q) sc_10 cls_Is ml_Is_80 mv_Is_targetOf (by decide) (Nat.le_of_ble_eq_true rfl) rfl d_Is_firstStranded_45 ?_
          obtain ⟨r3, V3, hc_r3, h⟩ := cl_some h
          refine Y_callV (pc := 48) hC (c_Is_isNear C.l C.D C.cI C.cZ C.a hc_r3) (fun q => nomatch q) sc_10 cls_Is ml_Is_84 mv_Is_isNear (by decide) (Nat.le_of_ble_eq_true rfl) rfl d_Is_firstStranded_48 ?_
          refine Y_if_ne (pc := 51) hC 56 d_Is_firstStranded_51 rfl (fun cc_51 => ?_) (fun cc_51 => ?_)
          · have h := ifn cc_51 h
            refine Y_iinc (pc := 56) hC (v := x1 + 1) (L' := [(1, .int (x1 + 1)), (2, .int (V 32 x1.toNatClampNeg)), (0, .ref (C.a 10))]) d_Is_firstStranded_56 2 rfl rfl (by decide) rfl ?_
            refine Y_goto (pc := 59) hC 2 d_Is_firstStranded_59 rfl ?_
            refine Y_sub (pc := 2) [2, 0] rfl ?_
            exact ih _ _ h
          · have h := ifp cc_51 h
            refine Y_sub (pc := 54) [0] rfl ?_
            exact hk54 _ _ h
set_option maxHeartbeats 4000000 in
set_option maxRecDepth 100000 in
theorem c_Is_firstStranded (l : Launch) (D : va_G) (cI cZ : ClassId) (a : Nat → Nat) {V : Sto} {r : Int32} {V' : Sto} (h : f_Is_firstStranded V = some (r, V')) : YMi l D cI cZ a shpC y_Is_firstStranded b_Is_firstStranded 3 (some .int) rm_Is_firstStranded false [.ref (a 10)] V r V' := by
  refine YMi_of (by decide) (Nat.le_of_ble_eq_true rfl) ?_
  intro C hl hDD hcI hcZ ha hC hw hE
  subst hl hDD hcI hcZ ha
  show Y C shpC 3 0 [(0, .ref (C.a 10))] [] V
  rw [f_Is_firstStranded] at h
  refine Y_iconst (pc := 0) hC d_Is_firstStranded_0 ki_0 ?_
  refine Y_istore_n (pc := 1) hC (L' := [(1, .int 0), (0, .ref (C.a 10))]) d_Is_firstStranded_1 rfl (by decide) rfl ?_
  refine Y_sub (pc := 2) [1, 0] rfl ?_
  refine ylp_Is_firstStranded_2 hC hE (fun y1 V4 h => ?_) (fun V5 h => ?_) FU _ _ h
  · have h := h
    refine Y_iload_n (pc := 54) hC d_Is_firstStranded_54 rfl 0 rfl ?_
    exact Y_iret (pc := 55) hC hE d_Is_firstStranded_55 h
  · have h := h
    refine Y_iconst (pc := 62) hC d_Is_firstStranded_62 ki_m1 ?_
    exact Y_iret (pc := 63) hC hE d_Is_firstStranded_63 h
