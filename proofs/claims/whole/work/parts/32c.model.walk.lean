set_option maxHeartbeats 4000000 in
set_option maxRecDepth 100000 in
theorem ylp_Mo_isNeeded_16 {C : YC} {r : Int32} {V' : Sto} {x1 : Int32} {k84 : Int32 → Sto → RT} (hC : YF C R_Mo b_Mo_isNeeded 4 rm_Mo_isNeeded) (hE : YEi C .boolean shpM r V') (hk84 : ∀ (y2 : Int32) (V1 : Sto), k84 y2 V1 = some (r, V') → Y C shpM 4 84 [(0, .ref (C.a 0)), (1, .int x1), (2, .int y2)] [] V1) : ∀ (n : Nat) (x2 x3 : Int32) (V : Sto), lp_Mo_isNeeded_16 x1 k84 n x2 x3 V = some (r, V') → Y C shpM 4 16 [(0, .ref (C.a 0)), (1, .int x1), (2, .int x2), (3, .int x3)] [] V := by
  intro n
  induction n with
  | zero =>
    intro x2 x3 V h
    rw [lp_Mo_isNeeded_16] at h
    cases h
  | succ n ih =>
    intro x2 x3 V h
    rw [lp_Mo_isNeeded_16] at h
    refine Y_iload_n (pc := 16) hC d_Mo_isNeeded_16 rfl 3 rfl ?_
    refine Y_aload_n (pc := 17) hC d_Mo_isNeeded_17 rfl 0 rfl ?_
    refine Y_getI (pc := 18) hC sm_0 fl_Mo_157 rfl d_Mo_isNeeded_18 ?_
    refine Y_icmp_ge (pc := 21) hC 84 d_Mo_isNeeded_21 rfl (fun cc_21 => ?_) (fun cc_21 => ?_)
    · have h := ifp cc_21 h
      refine Y_sub (pc := 84) [0, 1, 2] rfl ?_
      exact hk84 _ _ h
    · have h := ifn cc_21 h
      refine Y_iload_n (pc := 24) hC d_Mo_isNeeded_24 rfl 2 rfl ?_
      refine Y_if_ne (pc := 25) hC 72 d_Mo_isNeeded_25 rfl (fun cc_25 => ?_) (fun cc_25 => ?_)
      · have h := ifn cc_25 h
        refine Y_iconst (pc := 72) hC d_Mo_isNeeded_72 ki_1 ?_
        refine Y_goto (pc := 73) hC 77 d_Mo_isNeeded_73 rfl ?_
        refine Y_istore_n (pc := 77) hC (L' := [(2, .int 1), (0, .ref (C.a 0)), (1, .int x1), (3, .int x3)]) d_Mo_isNeeded_77 rfl (by decide) rfl ?_
        refine Y_iinc (pc := 78) hC (v := x3 + 1) (L' := [(3, .int (x3 + 1)), (2, .int 1), (0, .ref (C.a 0)), (1, .int x1)]) d_Mo_isNeeded_78 3 rfl rfl (by decide) rfl ?_
        refine Y_goto (pc := 81) hC 16 d_Mo_isNeeded_81 rfl ?_
        refine Y_sub (pc := 16) [2, 3, 1, 0] rfl ?_
        exact ih _ _ _ h
      · have h := ifp cc_25 h
        refine Y_aload_n (pc := 28) hC d_Mo_isNeeded_28 rfl 0 rfl ?_
        refine Y_getR (pc := 29) hC sm_0 fl_Mo_79 rfl d_Mo_isNeeded_29 ?_
        refine Y_aload_n (pc := 32) hC d_Mo_isNeeded_32 rfl 0 rfl ?_
        refine Y_getR (pc := 33) hC sm_0 fl_Mo_36 rfl d_Mo_isNeeded_33 ?_
        refine Y_iload_n (pc := 36) hC d_Mo_isNeeded_36 rfl 3 rfl ?_
        obtain ⟨hi, h⟩ := ck_some h
        refine Y_iald (pc := 37) hC sm_9 rfl hi d_Mo_isNeeded_37 ?_
        obtain ⟨hi, h⟩ := ck_some h
        refine Y_zald (pc := 38) hC sm_20 rfl hi d_Mo_isNeeded_38 ?_
        refine Y_if_eq (pc := 39) hC 76 d_Mo_isNeeded_39 rfl (fun cc_39 => ?_) (fun cc_39 => ?_)
        · have h := ifp cc_39 h
          refine Y_iconst (pc := 76) hC d_Mo_isNeeded_76 ki_0 ?_
          refine Y_istore_n (pc := 77) hC (L' := [(2, .int 0), (0, .ref (C.a 0)), (1, .int x1), (3, .int x3)]) d_Mo_isNeeded_77 rfl (by decide) rfl ?_
          refine Y_iinc (pc := 78) hC (v := x3 + 1) (L' := [(3, .int (x3 + 1)), (2, .int 0), (0, .ref (C.a 0)), (1, .int x1)]) d_Mo_isNeeded_78 3 rfl rfl (by decide) rfl ?_
          refine Y_goto (pc := 81) hC 16 d_Mo_isNeeded_81 rfl ?_
          refine Y_sub (pc := 16) [2, 3, 1, 0] rfl ?_
          exact ih _ _ _ h
        · have h := ifn cc_39 h
          refine Y_aload_n (pc := 42) hC d_Mo_isNeeded_42 rfl 0 rfl ?_
          refine Y_getR (pc := 43) hC sm_0 fl_Mo_48 rfl d_Mo_isNeeded_43 ?_
          refine Y_iload_n (pc := 46) hC d_Mo_isNeeded_46 rfl 3 rfl ?_
          obtain ⟨hi, h⟩ := ck_some h
          refine Y_iald (pc := 47) hC sm_13 rfl hi d_Mo_isNeeded_47 ?_
          refine Y_iload_n (pc := 48) hC d_Mo_isNeeded_48 rfl 1 rfl ?_
          refine Y_icmp_ne (pc := 49) hC 76 d_Mo_isNeeded_49 rfl (fun cc_49 => ?_) (fun cc_49 => ?_)
          · have h := ifn cc_49 h
            refine Y_iconst (pc := 76) hC d_Mo_isNeeded_76 ki_0 ?_
            refine Y_istore_n (pc := 77) hC (L' := [(2, .int 0), (0, .ref (C.a 0)), (1, .int x1), (3, .int x3)]) d_Mo_isNeeded_77 rfl (by decide) rfl ?_
            refine Y_iinc (pc := 78) hC (v := x3 + 1) (L' := [(3, .int (x3 + 1)), (2, .int 0), (0, .ref (C.a 0)), (1, .int x1)]) d_Mo_isNeeded_78 3 rfl rfl (by decide) rfl ?_
            refine Y_goto (pc := 81) hC 16 d_Mo_isNeeded_81 rfl ?_
            refine Y_sub (pc := 16) [2, 3, 1, 0] rfl ?_
            exact ih _ _ _ h
          · have h := ifp cc_49 h
            refine Y_aload_n (pc := 52) hC d_Mo_isNeeded_52 rfl 0 rfl ?_
            refine Y_getR (pc := 53) hC sm_0 fl_Mo_39 rfl d_Mo_isNeeded_53 ?_
            refine Y_iload_n (pc := 56) hC d_Mo_isNeeded_56 rfl 3 rfl ?_
            obtain ⟨hi, h⟩ := ck_some h
            refine Y_iald (pc := 57) hC sm_10 rfl hi d_Mo_isNeeded_57 ?_
            refine Y_iconst (pc := 58) hC d_Mo_isNeeded_58 ki_1 ?_
            refine Y_icmp_ne (pc := 59) hC 76 d_Mo_isNeeded_59 rfl (fun cc_59 => ?_) (fun cc_59 => ?_)
            · have h := ifn cc_59 h
              refine Y_iconst (pc := 76) hC d_Mo_isNeeded_76 ki_0 ?_
              refine Y_istore_n (pc := 77) hC (L' := [(2, .int 0), (0, .ref (C.a 0)), (1, .int x1), (3, .int x3)]) d_Mo_isNeeded_77 rfl (by decide) rfl ?_
              refine Y_iinc (pc := 78) hC (v := x3 + 1) (L' := [(3, .int (x3 + 1)), (2, .int 0), (0, .ref (C.a 0)), (1, .int x1)]) d_Mo_isNeeded_78 3 rfl rfl (by decide) rfl ?_
              refine Y_goto (pc := 81) hC 16 d_Mo_isNeeded_81 rfl ?_
              refine Y_sub (pc := 16) [2, 3, 1, 0] rfl ?_
              exact ih _ _ _ h
            · have h := ifp cc_59 h
              refine Y_aload_n (pc := 62) hC d_Mo_isNeeded_62 rfl 0 rfl ?_
              refine Y_getR (pc := 63) hC sm_0 fl_Mo_51 rfl d_Mo_isNeeded_63 ?_
              refine Y_iload_n (pc := 66) hC d_Mo_isNeeded_66 rfl 3 rfl ?_
              obtain ⟨hi, h⟩ := ck_some h
              refine Y_iald (pc := 67) hC sm_14 rfl hi d_Mo_isNeeded_67 ?_
              refine Y_iconst (pc := 68) hC d_Mo_isNeeded_68 ki_1 ?_
              refine Y_icmp_ne (pc := 69) hC 76 d_Mo_isNeeded_69 rfl (fun cc_69 => ?_) (fun cc_69 => ?_)
              · have h := ifn cc_69 h
                refine Y_iconst (pc := 76) hC d_Mo_isNeeded_76 ki_0 ?_
                refine Y_istore_n (pc := 77) hC (L' := [(2, .int 0), (0, .ref (C.a 0)), (1, .int x1), (3, .int x3)]) d_Mo_isNeeded_77 rfl (by decide) rfl ?_
                refine Y_iinc (pc := 78) hC (v := x3 + 1) (L' := [(3, .int (x3 + 1)), (2, .int 0), (0, .ref (C.a 0)), (1, .int x1)]) d_Mo_isNeeded_78 3 rfl rfl (by decide) rfl ?_
                refine Y_goto (pc := 81) hC 16 d_Mo_isNeeded_81 rfl ?_
                refine Y_sub (pc := 16) [2, 3, 1, 0] rfl ?_
                exact ih _ _ _ h
              · have h := ifp cc_69 h
                refine Y_iconst (pc := 72) hC d_Mo_isNeeded_72 ki_1 ?_
                refine Y_goto (pc := 73) hC 77 d_Mo_isNeeded_73 rfl ?_
                refine Y_istore_n (pc := 77) hC (L' := [(2, .int 1), (0, .ref (C.a 0)), (1, .int x1), (3, .int x3)]) d_Mo_isNeeded_77 rfl (by decide) rfl ?_
                refine Y_iinc (pc := 78) hC (v := x3 + 1) (L' := [(3, .int (x3 + 1)), (2, .int 1), (0, .ref (C.a 0)), (1, .int x1)]) d_Mo_isNeeded_78 3 rfl rfl (by decide) rfl ?_
                refine Y_goto (pc := 81) hC 16 d_Mo_isNeeded_81 rfl ?_
                refine Y_sub (pc := 16) [2, 3, 1, 0] rfl ?_
                exact ih _ _ _ h
set_option maxHeartbeats 4000000 in
set_option maxRecDepth 100000 in
theorem c_Mo_isNeeded (l : Launch) (D : va_G) (cI cZ : ClassId) (a : Nat → Nat) {V : Sto} {p1 : Int32} {r : Int32} {V' : Sto} (h : f_Mo_isNeeded V p1 = some (r, V')) : YMi l D cI cZ a shpM y_Mo_isNeeded b_Mo_isNeeded 4 (some .boolean) rm_Mo_isNeeded false [.ref (a 0), .int p1] V r V' := by
  refine YMi_of (by decide) (Nat.le_of_ble_eq_true rfl) ?_
  intro C hl hDD hcI hcZ ha hC hw hE
  subst hl hDD hcI hcZ ha
  show Y C shpM 4 0 [(0, .ref (C.a 0)), (1, .int p1)] [] V
  rw [f_Mo_isNeeded] at h
  refine Y_iload_n (pc := 0) hC d_Mo_isNeeded_0 rfl 1 rfl ?_
  refine Y_aload_n (pc := 1) hC d_Mo_isNeeded_1 rfl 0 rfl ?_
  refine Y_getI (pc := 2) hC sm_0 fl_Mo_69 rfl d_Mo_isNeeded_2 ?_
  obtain ⟨j1, hj1, h⟩ := jn_some h
  have kj1 : ∀ (z1 : Int32), j1 z1 = some (r, V') → Y C shpM 4 13 [(0, .ref (C.a 0)), (1, .int p1)] [.int z1] V := by
    intro z1 h
    subst hj1
    dsimp only at h
    refine Y_istore_n (pc := 13) hC (L' := [(2, .int z1), (0, .ref (C.a 0)), (1, .int p1)]) d_Mo_isNeeded_13 rfl (by decide) rfl ?_
    refine Y_iconst (pc := 14) hC d_Mo_isNeeded_14 ki_0 ?_
    refine Y_istore_n (pc := 15) hC (L' := [(3, .int 0), (2, .int z1), (0, .ref (C.a 0)), (1, .int p1)]) d_Mo_isNeeded_15 rfl (by decide) rfl ?_
    refine Y_sub (pc := 16) [2, 3, 1, 0] rfl ?_
    refine ylp_Mo_isNeeded_16 hC hE (fun y1 V1 h => ?_) FU _ _ _ h
    refine Y_iload_n (pc := 84) hC d_Mo_isNeeded_84 rfl 2 rfl ?_
    refine Y_if_eq (pc := 85) hC 100 d_Mo_isNeeded_85 rfl (fun cc_85 => ?_) (fun cc_85 => ?_)
    · have h := ifp cc_85 h
      refine Y_iconst (pc := 100) hC d_Mo_isNeeded_100 ki_0 ?_
      exact Y_zret (pc := 101) hC hE d_Mo_isNeeded_101 rfl h
    · have h := ifn cc_85 h
      refine Y_aload_n (pc := 88) hC d_Mo_isNeeded_88 rfl 0 rfl ?_
      refine Y_iload_n (pc := 89) hC d_Mo_isNeeded_89 rfl 1 rfl ?_
      obtain ⟨r1, V2, hc_r1, h⟩ := cl_some h
      refine Y_callV (pc := 90) hC (c_Mo_isGiven C.l C.D C.cI C.cZ C.a hc_r1) (fun q => nomatch q) sm_0 cls_Mo ml_Mo_176 mv_Mo_isGiven (by decide) (Nat.le_of_ble_eq_true rfl) rfl d_Mo_isNeeded_90 ?_
      refine Y_if_ne (pc := 93) hC 100 d_Mo_isNeeded_93 rfl (fun cc_93 => ?_) (fun cc_93 => ?_)
      · have h := ifn cc_93 h
        refine Y_iconst (pc := 100) hC d_Mo_isNeeded_100 ki_0 ?_
        exact Y_zret (pc := 101) hC hE d_Mo_isNeeded_101 rfl h
      · have h := ifp cc_93 h
        refine Y_iconst (pc := 96) hC d_Mo_isNeeded_96 ki_1 ?_
        refine Y_goto (pc := 97) hC 101 d_Mo_isNeeded_97 rfl ?_
        exact Y_zret (pc := 101) hC hE d_Mo_isNeeded_101 rfl h
  refine Y_icmp_ne (pc := 5) hC 12 d_Mo_isNeeded_5 rfl (fun cc_5 => ?_) (fun cc_5 => ?_)
  · have h := ifn cc_5 h
    refine Y_iconst (pc := 12) hC d_Mo_isNeeded_12 ki_0 ?_
    refine Y_sub (pc := 13) [0, 1] rfl ?_
    exact kj1 _ h
  · have h := ifp cc_5 h
    refine Y_iconst (pc := 8) hC d_Mo_isNeeded_8 ki_1 ?_
    refine Y_goto (pc := 9) hC 13 d_Mo_isNeeded_9 rfl ?_
    refine Y_sub (pc := 13) [0, 1] rfl ?_
    exact kj1 _ h
set_option maxHeartbeats 4000000 in
set_option maxRecDepth 100000 in
theorem ylp_Mo_helps_4 {C : YC} {r : Int32} {V' : Sto} {x1 : Int32} {k93 : Int32 → Sto → RT} (hC : YF C R_Mo b_Mo_helps 5 rm_Mo_helps) (hE : YEi C .boolean shpM r V') (hk93 : ∀ (y2 : Int32) (V1 : Sto), k93 y2 V1 = some (r, V') → Y C shpM 5 93 [(2, .int y2)] [] V1) : ∀ (n : Nat) (x2 x3 : Int32) (V : Sto), lp_Mo_helps_4 x1 k93 n x2 x3 V = some (r, V') → Y C shpM 5 4 [(0, .ref (C.a 0)), (1, .int x1), (2, .int x2), (3, .int x3)] [] V := by
  intro n
  induction n with
  | zero =>
    intro x2 x3 V h
    rw [lp_Mo_helps_4] at h
    cases h
  | succ n ih =>
    intro x2 x3 V h
    rw [lp_Mo_helps_4] at h
    refine Y_iload_n (pc := 4) hC d_Mo_helps_4 rfl 3 rfl ?_
    refine Y_aload_n (pc := 5) hC d_Mo_helps_5 rfl 0 rfl ?_
    refine Y_getI (pc := 6) hC sm_0 fl_Mo_157 rfl d_Mo_helps_6 ?_
    refine Y_icmp_ge (pc := 9) hC 93 d_Mo_helps_9 rfl (fun cc_9 => ?_) (fun cc_9 => ?_)
    · have h := ifp cc_9 h
      refine Y_sub (pc := 93) [2] rfl ?_
      exact hk93 _ _ h
    · have h := ifn cc_9 h
      refine Y_iload_n (pc := 12) hC d_Mo_helps_12 rfl 2 rfl ?_
      refine Y_if_ne (pc := 13) hC 93 d_Mo_helps_13 rfl (fun cc_13 => ?_) (fun cc_13 => ?_)
      · have h := ifn cc_13 h
        refine Y_sub (pc := 93) [2] rfl ?_
        exact hk93 _ _ h
      · have h := ifp cc_13 h
        refine Y_aload_n (pc := 16) hC d_Mo_helps_16 rfl 0 rfl ?_
        refine Y_getR (pc := 17) hC sm_0 fl_Mo_36 rfl d_Mo_helps_17 ?_
        refine Y_iload_n (pc := 20) hC d_Mo_helps_20 rfl 3 rfl ?_
        obtain ⟨hi, h⟩ := ck_some h
        refine Y_iald (pc := 21) hC sm_9 rfl hi d_Mo_helps_21 ?_
        refine Y_iload_n (pc := 22) hC d_Mo_helps_22 rfl 1 rfl ?_
        obtain ⟨j1, hj1, h⟩ := jn_some h
        have kj1 : ∀ (z1 : Int32), j1 z1 = some (r, V') → Y C shpM 5 61 [(0, .ref (C.a 0)), (1, .int x1), (3, .int x3)] [.int z1] V := by
          intro z1 h
          subst hj1
          dsimp only at h
          refine Y_istore (pc := 61) hC (L' := [(4, .int z1), (0, .ref (C.a 0)), (1, .int x1), (3, .int x3)]) d_Mo_helps_61 (by decide) rfl ?_
          refine Y_iload (pc := 63) hC d_Mo_helps_63 0 rfl ?_
          refine Y_if_eq (pc := 65) hC 85 d_Mo_helps_65 rfl (fun cc_65 => ?_) (fun cc_65 => ?_)
          · have h := ifp cc_65 h
            refine Y_iconst (pc := 85) hC d_Mo_helps_85 ki_0 ?_
            refine Y_istore_n (pc := 86) hC (L' := [(2, .int 0), (4, .int z1), (0, .ref (C.a 0)), (1, .int x1), (3, .int x3)]) d_Mo_helps_86 rfl (by decide) rfl ?_
            refine Y_iinc (pc := 87) hC (v := x3 + 1) (L' := [(3, .int (x3 + 1)), (2, .int 0), (4, .int z1), (0, .ref (C.a 0)), (1, .int x1)]) d_Mo_helps_87 4 rfl rfl (by decide) rfl ?_
            refine Y_goto (pc := 90) hC 4 d_Mo_helps_90 rfl ?_
            refine Y_sub (pc := 4) [3, 4, 1, 0] rfl ?_
            exact ih _ _ _ h
          · have h := ifn cc_65 h
            refine Y_aload_n (pc := 68) hC d_Mo_helps_68 rfl 1 rfl ?_
            refine Y_aload_n (pc := 69) hC d_Mo_helps_69 rfl 1 rfl ?_
            refine Y_getR (pc := 70) hC sm_0 fl_Mo_48 rfl d_Mo_helps_70 ?_
            refine Y_iload_n (pc := 73) hC d_Mo_helps_73 rfl 3 rfl ?_
            obtain ⟨hi, h⟩ := ck_some h
            refine Y_iald (pc := 74) hC sm_13 rfl hi d_Mo_helps_74 ?_
            obtain ⟨r1, V1, hc_r1, h⟩ := cl_some h
            refine Y_callV (pc := 75) hC (c_Mo_isNeeded C.l C.D C.cI C.cZ C.a hc_r1) (fun q => nomatch q) sm_0 cls_Mo ml_Mo_179 mv_Mo_isNeeded (by decide) (Nat.le_of_ble_eq_true rfl) rfl d_Mo_helps_75 ?_
            refine Y_if_eq (pc := 78) hC 85 d_Mo_helps_78 rfl (fun cc_78 => ?_) (fun cc_78 => ?_)
            · have h := ifp cc_78 h
              refine Y_iconst (pc := 85) hC d_Mo_helps_85 ki_0 ?_
              refine Y_istore_n (pc := 86) hC (L' := [(2, .int 0), (4, .int z1), (0, .ref (C.a 0)), (1, .int x1), (3, .int x3)]) d_Mo_helps_86 rfl (by decide) rfl ?_
              refine Y_iinc (pc := 87) hC (v := x3 + 1) (L' := [(3, .int (x3 + 1)), (2, .int 0), (4, .int z1), (0, .ref (C.a 0)), (1, .int x1)]) d_Mo_helps_87 4 rfl rfl (by decide) rfl ?_
              refine Y_goto (pc := 90) hC 4 d_Mo_helps_90 rfl ?_
              refine Y_sub (pc := 4) [3, 4, 1, 0] rfl ?_
              exact ih _ _ _ h
            · have h := ifn cc_78 h
              refine Y_iconst (pc := 81) hC d_Mo_helps_81 ki_1 ?_
              refine Y_goto (pc := 82) hC 86 d_Mo_helps_82 rfl ?_
              refine Y_istore_n (pc := 86) hC (L' := [(2, .int 1), (4, .int z1), (0, .ref (C.a 0)), (1, .int x1), (3, .int x3)]) d_Mo_helps_86 rfl (by decide) rfl ?_
              refine Y_iinc (pc := 87) hC (v := x3 + 1) (L' := [(3, .int (x3 + 1)), (2, .int 1), (4, .int z1), (0, .ref (C.a 0)), (1, .int x1)]) d_Mo_helps_87 4 rfl rfl (by decide) rfl ?_
              refine Y_goto (pc := 90) hC 4 d_Mo_helps_90 rfl ?_
              refine Y_sub (pc := 4) [3, 4, 1, 0] rfl ?_
              exact ih _ _ _ h
        refine Y_icmp_ne (pc := 23) hC 60 d_Mo_helps_23 rfl (fun cc_23 => ?_) (fun cc_23 => ?_)
        · have h := ifn cc_23 h
          refine Y_iconst (pc := 60) hC d_Mo_helps_60 ki_0 ?_
          refine Y_sub (pc := 61) [0, 1, 3] rfl ?_
          exact kj1 _ h
        · have h := ifp cc_23 h
          refine Y_aload_n (pc := 26) hC d_Mo_helps_26 rfl 0 rfl ?_
          refine Y_getR (pc := 27) hC sm_0 fl_Mo_39 rfl d_Mo_helps_27 ?_
          refine Y_iload_n (pc := 30) hC d_Mo_helps_30 rfl 3 rfl ?_
          obtain ⟨hi, h⟩ := ck_some h
          refine Y_iald (pc := 31) hC sm_10 rfl hi d_Mo_helps_31 ?_
          refine Y_iconst (pc := 32) hC d_Mo_helps_32 ki_1 ?_
          refine Y_icmp_eq (pc := 33) hC 60 d_Mo_helps_33 rfl (fun cc_33 => ?_) (fun cc_33 => ?_)
          · have h := ifp cc_33 h
            refine Y_iconst (pc := 60) hC d_Mo_helps_60 ki_0 ?_
            refine Y_sub (pc := 61) [0, 1, 3] rfl ?_
            exact kj1 _ h
          · have h := ifn cc_33 h
            refine Y_aload_n (pc := 36) hC d_Mo_helps_36 rfl 0 rfl ?_
            refine Y_getR (pc := 37) hC sm_0 fl_Mo_51 rfl d_Mo_helps_37 ?_
            refine Y_iload_n (pc := 40) hC d_Mo_helps_40 rfl 3 rfl ?_
            obtain ⟨hi, h⟩ := ck_some h
            refine Y_iald (pc := 41) hC sm_14 rfl hi d_Mo_helps_41 ?_
            refine Y_iconst (pc := 42) hC d_Mo_helps_42 ki_1 ?_
            refine Y_icmp_eq (pc := 43) hC 56 d_Mo_helps_43 rfl (fun cc_43 => ?_) (fun cc_43 => ?_)
            · have h := ifp cc_43 h
              refine Y_iconst (pc := 56) hC d_Mo_helps_56 ki_1 ?_
              refine Y_goto (pc := 57) hC 61 d_Mo_helps_57 rfl ?_
              refine Y_sub (pc := 61) [0, 1, 3] rfl ?_
              exact kj1 _ h
            · have h := ifn cc_43 h
              refine Y_aload_n (pc := 46) hC d_Mo_helps_46 rfl 0 rfl ?_
              refine Y_getR (pc := 47) hC sm_0 fl_Mo_51 rfl d_Mo_helps_47 ?_
              refine Y_iload_n (pc := 50) hC d_Mo_helps_50 rfl 3 rfl ?_
              obtain ⟨hi, h⟩ := ck_some h
              refine Y_iald (pc := 51) hC sm_14 rfl hi d_Mo_helps_51 ?_
              refine Y_iconst (pc := 52) hC d_Mo_helps_52 ki_3 ?_
              refine Y_icmp_ne (pc := 53) hC 60 d_Mo_helps_53 rfl (fun cc_53 => ?_) (fun cc_53 => ?_)
              · have h := ifn cc_53 h
                refine Y_iconst (pc := 60) hC d_Mo_helps_60 ki_0 ?_
                refine Y_sub (pc := 61) [0, 1, 3] rfl ?_
                exact kj1 _ h
              · have h := ifp cc_53 h
                refine Y_iconst (pc := 56) hC d_Mo_helps_56 ki_1 ?_
                refine Y_goto (pc := 57) hC 61 d_Mo_helps_57 rfl ?_
                refine Y_sub (pc := 61) [0, 1, 3] rfl ?_
                exact kj1 _ h
set_option maxHeartbeats 4000000 in
set_option maxRecDepth 100000 in
theorem c_Mo_helps (l : Launch) (D : va_G) (cI cZ : ClassId) (a : Nat → Nat) {V : Sto} {p1 : Int32} {r : Int32} {V' : Sto} (h : f_Mo_helps V p1 = some (r, V')) : YMi l D cI cZ a shpM y_Mo_helps b_Mo_helps 5 (some .boolean) rm_Mo_helps false [.ref (a 0), .int p1] V r V' := by
  refine YMi_of (by decide) (Nat.le_of_ble_eq_true rfl) ?_
  intro C hl hDD hcI hcZ ha hC hw hE
  subst hl hDD hcI hcZ ha
  show Y C shpM 5 0 [(0, .ref (C.a 0)), (1, .int p1)] [] V
  rw [f_Mo_helps] at h
  refine Y_iconst (pc := 0) hC d_Mo_helps_0 ki_0 ?_
  refine Y_istore_n (pc := 1) hC (L' := [(2, .int 0), (0, .ref (C.a 0)), (1, .int p1)]) d_Mo_helps_1 rfl (by decide) rfl ?_
  refine Y_iconst (pc := 2) hC d_Mo_helps_2 ki_0 ?_
  refine Y_istore_n (pc := 3) hC (L' := [(3, .int 0), (2, .int 0), (0, .ref (C.a 0)), (1, .int p1)]) d_Mo_helps_3 rfl (by decide) rfl ?_
  refine Y_sub (pc := 4) [2, 3, 1, 0] rfl ?_
  refine ylp_Mo_helps_4 hC hE (fun y1 V2 h => ?_) FU _ _ _ h
  refine Y_iload_n (pc := 93) hC d_Mo_helps_93 rfl 0 rfl ?_
  obtain ⟨hbb, h⟩ := ck_some h
  exact Y_zret (pc := 94) hC hE d_Mo_helps_94 hbb h
set_option maxHeartbeats 4000000 in
set_option maxRecDepth 100000 in
theorem ylp_Mo_bring_19 {C : YC} {r : Int32} {V' : Sto} {x1 : Int32} {x2 : Int32} {k69 : Int32 → Sto → RT} (hC : YF C R_Mo b_Mo_bring 6 rm_Mo_bring) (hw : YWr C shpM) (hE : YEi C .boolean shpM r V') (hk69 : ∀ (y4 : Int32) (V1 : Sto), k69 y4 V1 = some (r, V') → Y C shpM 6 69 [(0, .ref (C.a 0)), (1, .int x1), (2, .int x2), (4, .int y4)] [] V1) : ∀ (n : Nat) (x4 x5 : Int32) (V : Sto), lp_Mo_bring_19 x1 k69 n x4 x5 V = some (r, V') → Y C shpM 6 19 [(0, .ref (C.a 0)), (1, .int x1), (2, .int x2), (4, .int x4), (5, .int x5)] [] V := by
  intro n
  induction n with
  | zero =>
    intro x4 x5 V h
    rw [lp_Mo_bring_19] at h
    cases h
  | succ n ih =>
    intro x4 x5 V h
    rw [lp_Mo_bring_19] at h
    refine Y_iload (pc := 19) hC d_Mo_bring_19 4 rfl ?_
    refine Y_if_lt (pc := 21) hC 69 d_Mo_bring_21 rfl (fun cc_21 => ?_) (fun cc_21 => ?_)
    · have h := ifp cc_21 h
      refine Y_sub (pc := 69) [0, 1, 2, 3] rfl ?_
      exact hk69 _ _ h
    · have h := ifn cc_21 h
      refine Y_aload_n (pc := 24) hC d_Mo_bring_24 rfl 0 rfl ?_
      refine Y_getR (pc := 25) hC sm_0 fl_Mo_7 rfl d_Mo_bring_25 ?_
      refine Y_iload (pc := 28) hC d_Mo_bring_28 4 rfl ?_
      obtain ⟨hi, h⟩ := ck_some h
      refine Y_iald (pc := 30) hC sm_1 rfl hi d_Mo_bring_30 ?_
      refine Y_iload_n (pc := 31) hC d_Mo_bring_31 rfl 1 rfl ?_
      refine Y_icmp_ne (pc := 32) hC 59 d_Mo_bring_32 rfl (fun cc_32 => ?_) (fun cc_32 => ?_)
      · have h := ifn cc_32 h
        refine Y_iload (pc := 59) hC d_Mo_bring_59 3 rfl ?_
        refine Y_istore (pc := 61) hC (L' := [(4, .int x4), (0, .ref (C.a 0)), (1, .int x1), (2, .int x2), (5, .int x5)]) d_Mo_bring_61 (by decide) rfl ?_
        refine Y_iinc (pc := 63) hC (v := x5 + (-1)) (L' := [(5, .int (x5 + (-1))), (4, .int x4), (0, .ref (C.a 0)), (1, .int x1), (2, .int x2)]) d_Mo_bring_63 4 rfl rfl (by decide) rfl ?_
        refine Y_goto (pc := 66) hC 19 d_Mo_bring_66 rfl ?_
        refine Y_sub (pc := 19) [2, 3, 4, 1, 0] rfl ?_
        exact ih _ _ _ h
      · have h := ifp cc_32 h
        refine Y_aload_n (pc := 35) hC d_Mo_bring_35 rfl 0 rfl ?_
        refine Y_getR (pc := 36) hC sm_0 fl_Mo_79 rfl d_Mo_bring_36 ?_
        refine Y_iload (pc := 39) hC d_Mo_bring_39 4 rfl ?_
        obtain ⟨hi, h⟩ := ck_some h
        refine Y_zald (pc := 41) hC sm_20 rfl hi d_Mo_bring_41 ?_
        refine Y_if_ne (pc := 42) hC 59 d_Mo_bring_42 rfl (fun cc_42 => ?_) (fun cc_42 => ?_)
        · have h := ifn cc_42 h
          refine Y_iload (pc := 59) hC d_Mo_bring_59 3 rfl ?_
          refine Y_istore (pc := 61) hC (L' := [(4, .int x4), (0, .ref (C.a 0)), (1, .int x1), (2, .int x2), (5, .int x5)]) d_Mo_bring_61 (by decide) rfl ?_
          refine Y_iinc (pc := 63) hC (v := x5 + (-1)) (L' := [(5, .int (x5 + (-1))), (4, .int x4), (0, .ref (C.a 0)), (1, .int x1), (2, .int x2)]) d_Mo_bring_63 4 rfl rfl (by decide) rfl ?_
          refine Y_goto (pc := 66) hC 19 d_Mo_bring_66 rfl ?_
          refine Y_sub (pc := 19) [2, 3, 4, 1, 0] rfl ?_
          exact ih _ _ _ h
        · have h := ifp cc_42 h
          refine Y_aload_n (pc := 45) hC d_Mo_bring_45 rfl 0 rfl ?_
          refine Y_iload (pc := 46) hC d_Mo_bring_46 4 rfl ?_
          obtain ⟨r1, V1, hc_r1, h⟩ := cl_some h
          refine Y_callV (pc := 48) hC (c_Mo_helps C.l C.D C.cI C.cZ C.a hc_r1) (fun q => nomatch q) sm_0 cls_Mo ml_Mo_182 mv_Mo_helps (by decide) (Nat.le_of_ble_eq_true rfl) rfl d_Mo_bring_48 ?_
          refine Y_if_eq (pc := 51) hC 59 d_Mo_bring_51 rfl (fun cc_51 => ?_) (fun cc_51 => ?_)
          · have h := ifp cc_51 h
            refine Y_iload (pc := 59) hC d_Mo_bring_59 3 rfl ?_
            refine Y_istore (pc := 61) hC (L' := [(4, .int x4), (0, .ref (C.a 0)), (1, .int x1), (2, .int x2), (5, .int x5)]) d_Mo_bring_61 (by decide) rfl ?_
            refine Y_iinc (pc := 63) hC (v := x5 + (-1)) (L' := [(5, .int (x5 + (-1))), (4, .int x4), (0, .ref (C.a 0)), (1, .int x1), (2, .int x2)]) d_Mo_bring_63 4 rfl rfl (by decide) rfl ?_
            refine Y_goto (pc := 66) hC 19 d_Mo_bring_66 rfl ?_
            refine Y_sub (pc := 19) [2, 3, 4, 1, 0] rfl ?_
            exact ih _ _ _ h
          · have h := ifn cc_51 h
            refine Y_iload (pc := 54) hC d_Mo_bring_54 4 rfl ?_
            refine Y_goto (pc := 56) hC 61 d_Mo_bring_56 rfl ?_
            refine Y_istore (pc := 61) hC (L' := [(4, .int x5), (0, .ref (C.a 0)), (1, .int x1), (2, .int x2), (5, .int x5)]) d_Mo_bring_61 (by decide) rfl ?_
            refine Y_iinc (pc := 63) hC (v := x5 + (-1)) (L' := [(5, .int (x5 + (-1))), (4, .int x5), (0, .ref (C.a 0)), (1, .int x1), (2, .int x2)]) d_Mo_bring_63 4 rfl rfl (by decide) rfl ?_
            refine Y_goto (pc := 66) hC 19 d_Mo_bring_66 rfl ?_
            refine Y_sub (pc := 19) [2, 3, 4, 1, 0] rfl ?_
            exact ih _ _ _ h
set_option maxHeartbeats 4000000 in
set_option maxRecDepth 100000 in
theorem ylp_Mo_bring_4 {C : YC} {r : Int32} {V' : Sto} {x1 : Int32} {k98 : Int32 → Sto → RT} (hC : YF C R_Mo b_Mo_bring 6 rm_Mo_bring) (hw : YWr C shpM) (hE : YEi C .boolean shpM r V') (hk98 : ∀ (y2 : Int32) (V1 : Sto), k98 y2 V1 = some (r, V') → Y C shpM 6 98 [(2, .int y2)] [] V1) : ∀ (n : Nat) (x2 x3 : Int32) (V : Sto), lp_Mo_bring_4 x1 k98 n x2 x3 V = some (r, V') → Y C shpM 6 4 [(0, .ref (C.a 0)), (1, .int x1), (2, .int x2), (3, .int x3)] [] V := by
  intro n
  induction n with
  | zero =>
    intro x2 x3 V h
    rw [lp_Mo_bring_4] at h
    cases h
  | succ n ih =>
    intro x2 x3 V h
    rw [lp_Mo_bring_4] at h
    refine Y_iload_n (pc := 4) hC d_Mo_bring_4 rfl 3 rfl ?_
    refine Y_if_eq (pc := 5) hC 98 d_Mo_bring_5 rfl (fun cc_5 => ?_) (fun cc_5 => ?_)
    · have h := ifp cc_5 h
      refine Y_sub (pc := 98) [2] rfl ?_
      exact hk98 _ _ h
    · have h := ifn cc_5 h
      refine Y_iconst (pc := 8) hC d_Mo_bring_8 ki_m1 ?_
      refine Y_istore (pc := 9) hC (L' := [(4, .int (-1)), (0, .ref (C.a 0)), (1, .int x1), (2, .int x2), (3, .int x3)]) d_Mo_bring_9 (by decide) rfl ?_
      refine Y_aload_n (pc := 11) hC d_Mo_bring_11 rfl 1 rfl ?_
      refine Y_getI (pc := 12) hC sm_0 fl_Mo_129 rfl d_Mo_bring_12 ?_
      refine Y_iconst (pc := 15) hC d_Mo_bring_15 ki_1 ?_
      refine Y_isub (pc := 16) hC d_Mo_bring_16 ?_
      refine Y_istore (pc := 17) hC (L' := [(5, .int ((V 0 1) - 1)), (4, .int (-1)), (0, .ref (C.a 0)), (1, .int x1), (2, .int x2), (3, .int x3)]) d_Mo_bring_17 (by decide) rfl ?_
      refine Y_sub (pc := 19) [2, 3, 4, 1, 0] rfl ?_
      refine ylp_Mo_bring_19 hC hw hE (fun y1 V2 h => ?_) FU _ _ _ h
      refine Y_iload (pc := 69) hC d_Mo_bring_69 3 rfl ?_
      refine Y_iconst (pc := 71) hC d_Mo_bring_71 ki_m1 ?_
      obtain ⟨j1, hj1, h⟩ := jn_some h
      have kj1 : ∀ (z1 : Int32), j1 z1 = some (r, V') → Y C shpM 6 80 [(0, .ref (C.a 0)), (1, .int x1), (2, .int x2), (4, .int y1)] [.int z1] V2 := by
        intro z1 h
        subst hj1
        dsimp only at h
        refine Y_istore_n (pc := 80) hC (L' := [(3, .int z1), (0, .ref (C.a 0)), (1, .int x1), (2, .int x2), (4, .int y1)]) d_Mo_bring_80 rfl (by decide) rfl ?_
        refine Y_iload_n (pc := 81) hC d_Mo_bring_81 rfl 0 rfl ?_
        refine Y_if_eq (pc := 82) hC 95 d_Mo_bring_82 rfl (fun cc_82 => ?_) (fun cc_82 => ?_)
        · have h := ifp cc_82 h
          refine Y_goto (pc := 95) hC 4 d_Mo_bring_95 rfl ?_
          refine Y_sub (pc := 4) [1, 2, 3, 0] rfl ?_
          exact ih _ _ _ h
        · have h := ifn cc_82 h
          refine Y_aload_n (pc := 85) hC d_Mo_bring_85 rfl 1 rfl ?_
          refine Y_getR (pc := 86) hC sm_0 fl_Mo_79 rfl d_Mo_bring_86 ?_
          refine Y_iload (pc := 89) hC d_Mo_bring_89 4 rfl ?_
          refine Y_iconst (pc := 91) hC d_Mo_bring_91 ki_1 ?_
          obtain ⟨hi, h⟩ := ck_some h
          obtain ⟨V3, hV3, h⟩ := nm_some h
          refine Y_zast (pc := 92) hC sm_20 (by decide) rfl hi hw rfl hV3 d_Mo_bring_92 ?_
          refine Y_iconst (pc := 93) hC d_Mo_bring_93 ki_1 ?_
          refine Y_istore_n (pc := 94) hC (L' := [(2, .int 1), (3, .int z1), (0, .ref (C.a 0)), (1, .int x1), (4, .int y1)]) d_Mo_bring_94 rfl (by decide) rfl ?_
          refine Y_goto (pc := 95) hC 4 d_Mo_bring_95 rfl ?_
          refine Y_sub (pc := 4) [2, 3, 0, 1] rfl ?_
          exact ih _ _ _ h
      refine Y_icmp_eq (pc := 72) hC 79 d_Mo_bring_72 rfl (fun cc_72 => ?_) (fun cc_72 => ?_)
      · have h := ifp cc_72 h
        refine Y_iconst (pc := 79) hC d_Mo_bring_79 ki_0 ?_
        refine Y_sub (pc := 80) [0, 1, 2, 3] rfl ?_
        exact kj1 _ h
      · have h := ifn cc_72 h
        refine Y_iconst (pc := 75) hC d_Mo_bring_75 ki_1 ?_
        refine Y_goto (pc := 76) hC 80 d_Mo_bring_76 rfl ?_
        refine Y_sub (pc := 80) [0, 1, 2, 3] rfl ?_
        exact kj1 _ h
set_option maxHeartbeats 4000000 in
set_option maxRecDepth 100000 in
theorem c_Mo_bring (l : Launch) (D : va_G) (cI cZ : ClassId) (a : Nat → Nat) {V : Sto} {p1 : Int32} {r : Int32} {V' : Sto} (h : f_Mo_bring V p1 = some (r, V')) : YMi l D cI cZ a shpM y_Mo_bring b_Mo_bring 6 (some .boolean) rm_Mo_bring true [.ref (a 0), .int p1] V r V' := by
  refine YMi_of (by decide) (Nat.le_of_ble_eq_true rfl) ?_
  intro C hl hDD hcI hcZ ha hC hw hE
  subst hl hDD hcI hcZ ha
  show Y C shpM 6 0 [(0, .ref (C.a 0)), (1, .int p1)] [] V
  have hw := hw rfl
  rw [f_Mo_bring] at h
  refine Y_iconst (pc := 0) hC d_Mo_bring_0 ki_0 ?_
  refine Y_istore_n (pc := 1) hC (L' := [(2, .int 0), (0, .ref (C.a 0)), (1, .int p1)]) d_Mo_bring_1 rfl (by decide) rfl ?_
  refine Y_iconst (pc := 2) hC d_Mo_bring_2 ki_1 ?_
  refine Y_istore_n (pc := 3) hC (L' := [(3, .int 1), (2, .int 0), (0, .ref (C.a 0)), (1, .int p1)]) d_Mo_bring_3 rfl (by decide) rfl ?_
  refine Y_sub (pc := 4) [2, 3, 1, 0] rfl ?_
  refine ylp_Mo_bring_4 hC hw hE (fun y2 V4 h => ?_) FU _ _ _ h
  refine Y_iload_n (pc := 98) hC d_Mo_bring_98 rfl 0 rfl ?_
  obtain ⟨hbb, h⟩ := ck_some h
  exact Y_zret (pc := 99) hC hE d_Mo_bring_99 hbb h
set_option maxHeartbeats 4000000 in
set_option maxRecDepth 100000 in
theorem ylp_Mo_findIn_2 {C : YC} {r : Int32} {V' : Sto} {k37 : Sto → RT} (hC : YF C R_Mo b_Mo_findIn 3 rm_Mo_findIn) (hw : YWr C shpM) (hE : YEv C shpM V') (hk37 : ∀ (V1 : Sto), k37 V1 = some (r, V') → Y C shpM 3 37 [(0, .ref (C.a 0))] [] V1) : ∀ (n : Nat) (x1 : Int32) (V : Sto), lp_Mo_findIn_2 k37 n x1 V = some (r, V') → Y C shpM 3 2 [(0, .ref (C.a 0)), (1, .int x1)] [] V := by
  intro n
  induction n with
  | zero =>
    intro x1 V h
    rw [lp_Mo_findIn_2] at h
    cases h
  | succ n ih =>
    intro x1 V h
    rw [lp_Mo_findIn_2] at h
    refine Y_iload_n (pc := 2) hC d_Mo_findIn_2 rfl 1 rfl ?_
    refine Y_aload_n (pc := 3) hC d_Mo_findIn_3 rfl 0 rfl ?_
    refine Y_getI (pc := 4) hC sm_0 fl_Mo_129 rfl d_Mo_findIn_4 ?_
    refine Y_icmp_ge (pc := 7) hC 37 d_Mo_findIn_7 rfl (fun cc_7 => ?_) (fun cc_7 => ?_)
    · have h := ifp cc_7 h
      refine Y_sub (pc := 37) [0] rfl ?_
      exact hk37 _ h
    · have h := ifn cc_7 h
      refine Y_aload_n (pc := 10) hC d_Mo_findIn_10 rfl 0 rfl ?_
      refine Y_getR (pc := 11) hC sm_0 fl_Mo_79 rfl d_Mo_findIn_11 ?_
      refine Y_iload_n (pc := 14) hC d_Mo_findIn_14 rfl 1 rfl ?_
      refine Y_aload_n (pc := 15) hC d_Mo_findIn_15 rfl 0 rfl ?_
      refine Y_getR (pc := 16) hC sm_0 fl_Mo_7 rfl d_Mo_findIn_16 ?_
      refine Y_iload_n (pc := 19) hC d_Mo_findIn_19 rfl 1 rfl ?_
      obtain ⟨hi, h⟩ := ck_some h
      refine Y_iald (pc := 20) hC sm_1 rfl hi d_Mo_findIn_20 ?_
      refine Y_iconst (pc := 21) hC d_Mo_findIn_21 ki_m1 ?_
      refine Y_icmp_ne (pc := 22) hC 29 d_Mo_findIn_22 rfl (fun cc_22 => ?_) (fun cc_22 => ?_)
      · have h := ifn cc_22 h
        refine Y_iconst (pc := 29) hC d_Mo_findIn_29 ki_0 ?_
        obtain ⟨hi, h⟩ := ck_some h
        obtain ⟨V1, hV1, h⟩ := nm_some h
        refine Y_zast (pc := 30) hC sm_20 (by decide) rfl hi hw rfl hV1 d_Mo_findIn_30 ?_
        refine Y_iinc (pc := 31) hC (v := x1 + 1) (L' := [(1, .int (x1 + 1)), (0, .ref (C.a 0))]) d_Mo_findIn_31 1 rfl rfl (by decide) rfl ?_
        refine Y_goto (pc := 34) hC 2 d_Mo_findIn_34 rfl ?_
        refine Y_sub (pc := 2) [1, 0] rfl ?_
        exact ih _ _ h
      · have h := ifp cc_22 h
        refine Y_iconst (pc := 25) hC d_Mo_findIn_25 ki_1 ?_
        refine Y_goto (pc := 26) hC 30 d_Mo_findIn_26 rfl ?_
        obtain ⟨hi, h⟩ := ck_some h
        obtain ⟨V2, hV2, h⟩ := nm_some h
        refine Y_zast (pc := 30) hC sm_20 (by decide) rfl hi hw rfl hV2 d_Mo_findIn_30 ?_
        refine Y_iinc (pc := 31) hC (v := x1 + 1) (L' := [(1, .int (x1 + 1)), (0, .ref (C.a 0))]) d_Mo_findIn_31 1 rfl rfl (by decide) rfl ?_
        refine Y_goto (pc := 34) hC 2 d_Mo_findIn_34 rfl ?_
        refine Y_sub (pc := 2) [1, 0] rfl ?_
        exact ih _ _ h
set_option maxHeartbeats 4000000 in
set_option maxRecDepth 100000 in
theorem ylp_Mo_findIn_47 {C : YC} {r : Int32} {V' : Sto} {k76 : Int32 → Sto → RT} (hC : YF C R_Mo b_Mo_findIn 3 rm_Mo_findIn) (hw : YWr C shpM) (hE : YEv C shpM V') (hk76 : ∀ (y1 : Int32) (V1 : Sto), k76 y1 V1 = some (r, V') → Y C shpM 3 76 [(0, .ref (C.a 0)), (1, .int y1)] [] V1) : ∀ (n : Nat) (x1 x2 : Int32) (V : Sto), lp_Mo_findIn_47 k76 n x1 x2 V = some (r, V') → Y C shpM 3 47 [(0, .ref (C.a 0)), (1, .int x1), (2, .int x2)] [] V := by
  intro n
  induction n with
  | zero =>
    intro x1 x2 V h
    rw [lp_Mo_findIn_47] at h
    cases h
  | succ n ih =>
    intro x1 x2 V h
    rw [lp_Mo_findIn_47] at h
    refine Y_iload_n (pc := 47) hC d_Mo_findIn_47 rfl 2 rfl ?_
    refine Y_iconst (pc := 48) hC d_Mo_findIn_48 ki_4 ?_
    refine Y_icmp_ge (pc := 49) hC 76 d_Mo_findIn_49 rfl (fun cc_49 => ?_) (fun cc_49 => ?_)
    · have h := ifp cc_49 h
      refine Y_sub (pc := 76) [0, 1] rfl ?_
      exact hk76 _ _ h
    · have h := ifn cc_49 h
      refine Y_aload_n (pc := 52) hC d_Mo_findIn_52 rfl 0 rfl ?_
      refine Y_iload_n (pc := 53) hC d_Mo_findIn_53 rfl 2 rfl ?_
      obtain ⟨r1, V4, hc_r1, h⟩ := cl_some h
      refine Y_callV (pc := 54) hC (c_Mo_bring C.l C.D C.cI C.cZ C.a hc_r1) (fun _ => hw) sm_0 cls_Mo ml_Mo_185 mv_Mo_bring (by decide) (Nat.le_of_ble_eq_true rfl) rfl d_Mo_findIn_54 ?_
      refine Y_if_ne (pc := 57) hC 64 d_Mo_findIn_57 rfl (fun cc_57 => ?_) (fun cc_57 => ?_)
      · have h := ifn cc_57 h
        refine Y_iconst (pc := 64) hC d_Mo_findIn_64 ki_1 ?_
        refine Y_goto (pc := 65) hC 69 d_Mo_findIn_65 rfl ?_
        refine Y_istore_n (pc := 69) hC (L' := [(1, .int 1), (0, .ref (C.a 0)), (2, .int x2)]) d_Mo_findIn_69 rfl (by decide) rfl ?_
        refine Y_iinc (pc := 70) hC (v := x2 + 1) (L' := [(2, .int (x2 + 1)), (1, .int 1), (0, .ref (C.a 0))]) d_Mo_findIn_70 2 rfl rfl (by decide) rfl ?_
        refine Y_goto (pc := 73) hC 47 d_Mo_findIn_73 rfl ?_
        refine Y_sub (pc := 47) [2, 1, 0] rfl ?_
        exact ih _ _ _ h
      · have h := ifp cc_57 h
        refine Y_iload_n (pc := 60) hC d_Mo_findIn_60 rfl 1 rfl ?_
        refine Y_if_eq (pc := 61) hC 68 d_Mo_findIn_61 rfl (fun cc_61 => ?_) (fun cc_61 => ?_)
        · have h := ifp cc_61 h
          refine Y_iconst (pc := 68) hC d_Mo_findIn_68 ki_0 ?_
          refine Y_istore_n (pc := 69) hC (L' := [(1, .int 0), (0, .ref (C.a 0)), (2, .int x2)]) d_Mo_findIn_69 rfl (by decide) rfl ?_
          refine Y_iinc (pc := 70) hC (v := x2 + 1) (L' := [(2, .int (x2 + 1)), (1, .int 0), (0, .ref (C.a 0))]) d_Mo_findIn_70 2 rfl rfl (by decide) rfl ?_
          refine Y_goto (pc := 73) hC 47 d_Mo_findIn_73 rfl ?_
          refine Y_sub (pc := 47) [2, 1, 0] rfl ?_
          exact ih _ _ _ h
        · have h := ifn cc_61 h
          refine Y_iconst (pc := 64) hC d_Mo_findIn_64 ki_1 ?_
          refine Y_goto (pc := 65) hC 69 d_Mo_findIn_65 rfl ?_
          refine Y_istore_n (pc := 69) hC (L' := [(1, .int 1), (0, .ref (C.a 0)), (2, .int x2)]) d_Mo_findIn_69 rfl (by decide) rfl ?_
          refine Y_iinc (pc := 70) hC (v := x2 + 1) (L' := [(2, .int (x2 + 1)), (1, .int 1), (0, .ref (C.a 0))]) d_Mo_findIn_70 2 rfl rfl (by decide) rfl ?_
          refine Y_goto (pc := 73) hC 47 d_Mo_findIn_73 rfl ?_
          refine Y_sub (pc := 47) [2, 1, 0] rfl ?_
          exact ih _ _ _ h
set_option maxHeartbeats 4000000 in
set_option maxRecDepth 100000 in
theorem ylp_Mo_findIn_39 {C : YC} {r : Int32} {V' : Sto} {k96 : Sto → RT} (hC : YF C R_Mo b_Mo_findIn 3 rm_Mo_findIn) (hw : YWr C shpM) (hE : YEv C shpM V') (hk96 : ∀ (V1 : Sto), k96 V1 = some (r, V') → Y C shpM 3 96 [] [] V1) : ∀ (n : Nat) (x1 : Int32) (V : Sto), lp_Mo_findIn_39 k96 n x1 V = some (r, V') → Y C shpM 3 39 [(0, .ref (C.a 0)), (1, .int x1)] [] V := by
  intro n
  induction n with
  | zero =>
    intro x1 V h
    rw [lp_Mo_findIn_39] at h
    cases h
  | succ n ih =>
    intro x1 V h
    rw [lp_Mo_findIn_39] at h
    refine Y_iload_n (pc := 39) hC d_Mo_findIn_39 rfl 1 rfl ?_
    refine Y_if_eq (pc := 40) hC 96 d_Mo_findIn_40 rfl (fun cc_40 => ?_) (fun cc_40 => ?_)
    · have h := ifp cc_40 h
      refine Y_sub (pc := 96) [] rfl ?_
      exact hk96 _ h
    · have h := ifn cc_40 h
      refine Y_iconst (pc := 43) hC d_Mo_findIn_43 ki_0 ?_
      refine Y_istore_n (pc := 44) hC (L' := [(1, .int 0), (0, .ref (C.a 0))]) d_Mo_findIn_44 rfl (by decide) rfl ?_
      refine Y_iconst (pc := 45) hC d_Mo_findIn_45 ki_0 ?_
      refine Y_istore_n (pc := 46) hC (L' := [(2, .int 0), (1, .int 0), (0, .ref (C.a 0))]) d_Mo_findIn_46 rfl (by decide) rfl ?_
      refine Y_sub (pc := 47) [2, 1, 0] rfl ?_
      refine ylp_Mo_findIn_47 hC hw hE (fun y1 V5 h => ?_) FU _ _ _ h
      refine Y_iload_n (pc := 76) hC d_Mo_findIn_76 rfl 1 rfl ?_
      refine Y_if_eq (pc := 77) hC 91 d_Mo_findIn_77 rfl (fun cc_77 => ?_) (fun cc_77 => ?_)
      · have h := ifp cc_77 h
        refine Y_iconst (pc := 91) hC d_Mo_findIn_91 ki_0 ?_
        refine Y_istore_n (pc := 92) hC (L' := [(1, .int 0), (0, .ref (C.a 0))]) d_Mo_findIn_92 rfl (by decide) rfl ?_
        refine Y_goto (pc := 93) hC 39 d_Mo_findIn_93 rfl ?_
        refine Y_sub (pc := 39) [1, 0] rfl ?_
        exact ih _ _ h
      · have h := ifn cc_77 h
        refine Y_aload_n (pc := 80) hC d_Mo_findIn_80 rfl 0 rfl ?_
        refine Y_getI (pc := 81) hC sm_0 fl_Mo_173 rfl d_Mo_findIn_81 ?_
        refine Y_if_eq (pc := 84) hC 91 d_Mo_findIn_84 rfl (fun cc_84 => ?_) (fun cc_84 => ?_)
        · have h := ifp cc_84 h
          refine Y_iconst (pc := 91) hC d_Mo_findIn_91 ki_0 ?_
          refine Y_istore_n (pc := 92) hC (L' := [(1, .int 0), (0, .ref (C.a 0))]) d_Mo_findIn_92 rfl (by decide) rfl ?_
          refine Y_goto (pc := 93) hC 39 d_Mo_findIn_93 rfl ?_
          refine Y_sub (pc := 39) [1, 0] rfl ?_
          exact ih _ _ h
        · have h := ifn cc_84 h
          refine Y_iconst (pc := 87) hC d_Mo_findIn_87 ki_1 ?_
          refine Y_goto (pc := 88) hC 92 d_Mo_findIn_88 rfl ?_
          refine Y_istore_n (pc := 92) hC (L' := [(1, .int 1), (0, .ref (C.a 0))]) d_Mo_findIn_92 rfl (by decide) rfl ?_
          refine Y_goto (pc := 93) hC 39 d_Mo_findIn_93 rfl ?_
          refine Y_sub (pc := 39) [1, 0] rfl ?_
          exact ih _ _ h
set_option maxHeartbeats 4000000 in
set_option maxRecDepth 100000 in
theorem c_Mo_findIn (l : Launch) (D : va_G) (cI cZ : ClassId) (a : Nat → Nat) {V : Sto} {r : Int32} {V' : Sto} (h : f_Mo_findIn V = some (r, V')) : YMv l D cI cZ a shpM y_Mo_findIn b_Mo_findIn 3 rm_Mo_findIn true [.ref (a 0)] V V' := by
  refine YMv_of (by decide) (Nat.le_of_ble_eq_true rfl) ?_
  intro C hl hDD hcI hcZ ha hC hw hE
  subst hl hDD hcI hcZ ha
  show Y C shpM 3 0 [(0, .ref (C.a 0))] [] V
  have hw := hw rfl
  rw [f_Mo_findIn] at h
  refine Y_iconst (pc := 0) hC d_Mo_findIn_0 ki_0 ?_
  refine Y_istore_n (pc := 1) hC (L' := [(1, .int 0), (0, .ref (C.a 0))]) d_Mo_findIn_1 rfl (by decide) rfl ?_
  refine Y_sub (pc := 2) [1, 0] rfl ?_
  refine ylp_Mo_findIn_2 hC hw hE (fun V3 h => ?_) FU _ _ h
  refine Y_iconst (pc := 37) hC d_Mo_findIn_37 ki_1 ?_
  refine Y_istore_n (pc := 38) hC (L' := [(1, .int 1), (0, .ref (C.a 0))]) d_Mo_findIn_38 rfl (by decide) rfl ?_
  refine Y_sub (pc := 39) [1, 0] rfl ?_
  refine ylp_Mo_findIn_39 hC hw hE (fun V6 h => ?_) FU _ _ h
  exact Y_vret (pc := 96) hC hE d_Mo_findIn_96 h
