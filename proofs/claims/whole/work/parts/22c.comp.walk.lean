set_option maxHeartbeats 4000000 in
set_option maxRecDepth 100000 in
theorem ylp_Rc_spread_16 {C : YC} {r : Int32} {V' : Sto} {k70 : Sto → RT} (hC : YF C R_Rc b_Rc_spread 3 rm_Rc_spread) (hw : YWr C shpC) (hE : YEv C shpC V') (hk70 : ∀ (V1 : Sto), k70 V1 = some (r, V') → Y C shpC 3 70 [(0, .ref (C.a 7))] [] V1) : ∀ (n : Nat) (x2 : Int32) (V : Sto), lp_Rc_spread_16 k70 n x2 V = some (r, V') → Y C shpC 3 16 [(0, .ref (C.a 7)), (2, .int x2)] [] V := by
  intro n
  induction n with
  | zero =>
    intro x2 V h
    rw [lp_Rc_spread_16] at h
    cases h
  | succ n ih =>
    intro x2 V h
    rw [lp_Rc_spread_16] at h
    refine Y_iload_n (pc := 16) hC d_Rc_spread_16 rfl 1 rfl ?_
    refine Y_aload_n (pc := 17) hC d_Rc_spread_17 rfl 0 rfl ?_
    refine Y_getR (pc := 18) hC sc_7 fl_Rc_26 rfl d_Rc_spread_18 ?_
    refine Y_getI (pc := 21) hC sc_2 fl_Rc_45 rfl d_Rc_spread_21 ?_
    refine Y_icmp_ge (pc := 24) hC 70 d_Rc_spread_24 rfl (fun cc_24 => ?_) (fun cc_24 => ?_)
    · have h := ifp cc_24 h
      refine Y_sub (pc := 70) [0] rfl ?_
      exact hk70 _ h
    · have h := ifn cc_24 h
      refine Y_aload_n (pc := 27) hC d_Rc_spread_27 rfl 0 rfl ?_
      refine Y_getR (pc := 28) hC sc_7 fl_Rc_26 rfl d_Rc_spread_28 ?_
      refine Y_getR (pc := 31) hC sc_2 fl_Rc_51 rfl d_Rc_spread_31 ?_
      refine Y_iload_n (pc := 34) hC d_Rc_spread_34 rfl 1 rfl ?_
      obtain ⟨hi, h⟩ := ck_some h
      refine Y_zald (pc := 35) hC sc_20 rfl hi d_Rc_spread_35 ?_
      refine Y_if_eq (pc := 36) hC 64 d_Rc_spread_36 rfl (fun cc_36 => ?_) (fun cc_36 => ?_)
      · have h := ifp cc_36 h
        refine Y_iinc (pc := 64) hC (v := x2 + 1) (L' := [(2, .int (x2 + 1)), (0, .ref (C.a 7))]) d_Rc_spread_64 1 rfl rfl (by decide) rfl ?_
        refine Y_goto (pc := 67) hC 16 d_Rc_spread_67 rfl ?_
        refine Y_sub (pc := 16) [1, 0] rfl ?_
        exact ih _ _ h
      · have h := ifn cc_36 h
        refine Y_aload_n (pc := 39) hC d_Rc_spread_39 rfl 0 rfl ?_
        refine Y_getR (pc := 40) hC sc_7 fl_Rc_22 rfl d_Rc_spread_40 ?_
        refine Y_getR (pc := 43) hC sc_1 fl_Rc_54 rfl d_Rc_spread_43 ?_
        refine Y_aload_n (pc := 46) hC d_Rc_spread_46 rfl 0 rfl ?_
        refine Y_getR (pc := 47) hC sc_7 fl_Rc_26 rfl d_Rc_spread_47 ?_
        refine Y_getR (pc := 50) hC sc_2 fl_Rc_59 rfl d_Rc_spread_50 ?_
        refine Y_iload_n (pc := 53) hC d_Rc_spread_53 rfl 1 rfl ?_
        obtain ⟨hi, h⟩ := ck_some h
        refine Y_iald (pc := 54) hC sc_15 rfl hi d_Rc_spread_54 ?_
        obtain ⟨hi, h⟩ := ck_some h
        refine Y_zald (pc := 55) hC sc_13 rfl hi d_Rc_spread_55 ?_
        refine Y_if_eq (pc := 56) hC 64 d_Rc_spread_56 rfl (fun cc_56 => ?_) (fun cc_56 => ?_)
        · have h := ifp cc_56 h
          refine Y_iinc (pc := 64) hC (v := x2 + 1) (L' := [(2, .int (x2 + 1)), (0, .ref (C.a 7))]) d_Rc_spread_64 1 rfl rfl (by decide) rfl ?_
          refine Y_goto (pc := 67) hC 16 d_Rc_spread_67 rfl ?_
          refine Y_sub (pc := 16) [1, 0] rfl ?_
          exact ih _ _ h
        · have h := ifn cc_56 h
          refine Y_aload_n (pc := 59) hC d_Rc_spread_59 rfl 0 rfl ?_
          refine Y_iload_n (pc := 60) hC d_Rc_spread_60 rfl 1 rfl ?_
          obtain ⟨r3, V4, hc_r3, h⟩ := cl_some h
          refine Y_callVv (pc := 61) hC (c_Rc_find C.l C.D C.cI C.cZ C.a hc_r3) (fun _ => hw) sc_7 cls_Rc ml_Rc_41 mv_Rc_find (by decide) (Nat.le_of_ble_eq_true rfl) rfl d_Rc_spread_61 ?_
          refine Y_iinc (pc := 64) hC (v := x2 + 1) (L' := [(2, .int (x2 + 1)), (0, .ref (C.a 7))]) d_Rc_spread_64 1 rfl rfl (by decide) rfl ?_
          refine Y_goto (pc := 67) hC 16 d_Rc_spread_67 rfl ?_
          refine Y_sub (pc := 16) [1, 0] rfl ?_
          exact ih _ _ h
set_option maxHeartbeats 4000000 in
set_option maxRecDepth 100000 in
theorem ylp_Rc_spread_72 {C : YC} {r : Int32} {V' : Sto} {k102 : Sto → RT} (hC : YF C R_Rc b_Rc_spread 3 rm_Rc_spread) (hw : YWr C shpC) (hE : YEv C shpC V') (hk102 : ∀ (V1 : Sto), k102 V1 = some (r, V') → Y C shpC 3 102 [] [] V1) : ∀ (n : Nat) (x2 : Int32) (V : Sto), lp_Rc_spread_72 k102 n x2 V = some (r, V') → Y C shpC 3 72 [(0, .ref (C.a 7)), (2, .int x2)] [] V := by
  intro n
  induction n with
  | zero =>
    intro x2 V h
    rw [lp_Rc_spread_72] at h
    cases h
  | succ n ih =>
    intro x2 V h
    rw [lp_Rc_spread_72] at h
    refine Y_iload_n (pc := 72) hC d_Rc_spread_72 rfl 1 rfl ?_
    refine Y_aload_n (pc := 73) hC d_Rc_spread_73 rfl 0 rfl ?_
    refine Y_getI (pc := 74) hC sc_7 fl_Rc_62 rfl d_Rc_spread_74 ?_
    refine Y_icmp_ge (pc := 77) hC 102 d_Rc_spread_77 rfl (fun cc_77 => ?_) (fun cc_77 => ?_)
    · have h := ifp cc_77 h
      refine Y_sub (pc := 102) [] rfl ?_
      exact hk102 _ h
    · have h := ifn cc_77 h
      refine Y_iload_n (pc := 80) hC d_Rc_spread_80 rfl 1 rfl ?_
      refine Y_bipush (pc := 81) hC d_Rc_spread_81 kb_96 ?_
      refine Y_icmp_ge (pc := 83) hC 102 d_Rc_spread_83 rfl (fun cc_83 => ?_) (fun cc_83 => ?_)
      · have h := ifp cc_83 h
        refine Y_sub (pc := 102) [] rfl ?_
        exact hk102 _ h
      · have h := ifn cc_83 h
        refine Y_aload_n (pc := 86) hC d_Rc_spread_86 rfl 0 rfl ?_
        refine Y_aload_n (pc := 87) hC d_Rc_spread_87 rfl 0 rfl ?_
        refine Y_getR (pc := 88) hC sc_7 fl_Rc_18 rfl d_Rc_spread_88 ?_
        refine Y_iload_n (pc := 91) hC d_Rc_spread_91 rfl 1 rfl ?_
        obtain ⟨hi, h⟩ := ck_some h
        refine Y_iald (pc := 92) hC sc_45 rfl hi d_Rc_spread_92 ?_
        obtain ⟨r4, V6, hc_r4, h⟩ := cl_some h
        refine Y_callVv (pc := 93) hC (c_Rc_spreadFrom C.l C.D C.cI C.cZ C.a hc_r4) (fun _ => hw) sc_7 cls_Rc ml_Rc_65 mv_Rc_spreadFrom (by decide) (Nat.le_of_ble_eq_true rfl) rfl d_Rc_spread_93 ?_
        refine Y_iinc (pc := 96) hC (v := x2 + 1) (L' := [(2, .int (x2 + 1)), (0, .ref (C.a 7))]) d_Rc_spread_96 1 rfl rfl (by decide) rfl ?_
        refine Y_goto (pc := 99) hC 72 d_Rc_spread_99 rfl ?_
        refine Y_sub (pc := 72) [1, 0] rfl ?_
        exact ih _ _ h
set_option maxHeartbeats 4000000 in
set_option maxRecDepth 100000 in
theorem c_Rc_spread (l : Launch) (D : va_G) (cI cZ : ClassId) (a : Nat → Nat) {V : Sto} {p1 : Int32} {r : Int32} {V' : Sto} (h : f_Rc_spread V p1 = some (r, V')) : YMv l D cI cZ a shpC y_Rc_spread b_Rc_spread 3 rm_Rc_spread true [.ref (a 7), .int p1] V V' := by
  refine YMv_of (by decide) (Nat.le_of_ble_eq_true rfl) ?_
  intro C hl hDD hcI hcZ ha hC hw hE
  subst hl hDD hcI hcZ ha
  show Y C shpC 3 0 [(0, .ref (C.a 7)), (1, .int p1)] [] V
  have hw := hw rfl
  rw [f_Rc_spread] at h
  refine Y_aload_n (pc := 0) hC d_Rc_spread_0 rfl 0 rfl ?_
  obtain ⟨r1, V1, hc_r1, h⟩ := cl_some h
  refine Y_callVv (pc := 1) hC (c_Rc_forget C.l C.D C.cI C.cZ C.a hc_r1) (fun _ => hw) sc_7 cls_Rc ml_Rc_38 mv_Rc_forget (by decide) (Nat.le_of_ble_eq_true rfl) rfl d_Rc_spread_1 ?_
  refine Y_iload_n (pc := 4) hC d_Rc_spread_4 rfl 1 rfl ?_
  refine Y_iconst (pc := 5) hC d_Rc_spread_5 ki_m1 ?_
  obtain ⟨j1, hj1, h⟩ := jn_some h
  have kj1 : ∀ (V3 : Sto), j1 V3 = some (r, V') → Y C shpC 3 14 [(0, .ref (C.a 7))] [] V3 := by
    intro V3 h
    subst hj1
    dsimp only at h
    refine Y_iconst (pc := 14) hC d_Rc_spread_14 ki_0 ?_
    refine Y_istore_n (pc := 15) hC (L' := [(2, .int 0), (0, .ref (C.a 7))]) d_Rc_spread_15 rfl (by decide) rfl ?_
    refine Y_sub (pc := 16) [1, 0] rfl ?_
    refine ylp_Rc_spread_16 hC hw hE (fun V5 h => ?_) FU _ _ h
    refine Y_iconst (pc := 70) hC d_Rc_spread_70 ki_0 ?_
    refine Y_istore_n (pc := 71) hC (L' := [(2, .int 0), (0, .ref (C.a 7))]) d_Rc_spread_71 rfl (by decide) rfl ?_
    refine Y_sub (pc := 72) [1, 0] rfl ?_
    refine ylp_Rc_spread_72 hC hw hE (fun V7 h => ?_) FU _ _ h
    exact Y_vret (pc := 102) hC hE d_Rc_spread_102 h
  refine Y_icmp_eq (pc := 6) hC 14 d_Rc_spread_6 rfl (fun cc_6 => ?_) (fun cc_6 => ?_)
  · have h := ifp cc_6 h
    refine Y_sub (pc := 14) [0] rfl ?_
    exact kj1 _ h
  · have h := ifn cc_6 h
    refine Y_aload_n (pc := 9) hC d_Rc_spread_9 rfl 0 rfl ?_
    refine Y_iload_n (pc := 10) hC d_Rc_spread_10 rfl 1 rfl ?_
    obtain ⟨r2, V2, hc_r2, h⟩ := cl_some h
    refine Y_callVv (pc := 11) hC (c_Rc_find C.l C.D C.cI C.cZ C.a hc_r2) (fun _ => hw) sc_7 cls_Rc ml_Rc_41 mv_Rc_find (by decide) (Nat.le_of_ble_eq_true rfl) rfl d_Rc_spread_11 ?_
    refine Y_sub (pc := 14) [0] rfl ?_
    exact kj1 _ h
set_option maxHeartbeats 4000000 in
set_option maxRecDepth 100000 in
theorem ylp_fill33_5 {C : YC} {r : Int32} {V' : Sto} {x1 : Int32} {x3 : Int32} {k20 : Sto → RT} (hC : YF C "java/util/Arrays" b_fill33 4 rm_fill33) (hw : YWr C shpC) (hE : YEv C shpC V') (hk20 : ∀ (V1 : Sto), k20 V1 = some (r, V') → Y C shpC 4 20 [] [] V1) : ∀ (n : Nat) (x2 : Int32) (V : Sto), lp_fill33_5 x1 x3 k20 n x2 V = some (r, V') → Y C shpC 4 5 [(0, .ref (C.a 33)), (1, .int x1), (2, .int x2), (3, .int x3)] [] V := by
  intro n
  induction n with
  | zero =>
    intro x2 V h
    rw [lp_fill33_5] at h
    cases h
  | succ n ih =>
    intro x2 V h
    rw [lp_fill33_5] at h
    refine Y_iload_n (pc := 5) hC d_fill33_5 rfl 2 rfl ?_
    refine Y_iload_n (pc := 6) hC d_fill33_6 rfl 3 rfl ?_
    refine Y_icmp_ge (pc := 7) hC 20 d_fill33_7 rfl (fun cc_7 => ?_) (fun cc_7 => ?_)
    · have h := ifp cc_7 h
      refine Y_sub (pc := 20) [] rfl ?_
      exact hk20 _ h
    · have h := ifn cc_7 h
      refine Y_aload_n (pc := 10) hC d_fill33_10 rfl 0 rfl ?_
      refine Y_iload_n (pc := 11) hC d_fill33_11 rfl 2 rfl ?_
      refine Y_iload_n (pc := 12) hC d_fill33_12 rfl 1 rfl ?_
      obtain ⟨hi, h⟩ := ck_some h
      obtain ⟨V1, hV1, h⟩ := nm_some h
      refine Y_iast (pc := 13) hC sc_33 (by decide) rfl hi hw rfl hV1 d_fill33_13 ?_
      refine Y_iinc (pc := 14) hC (v := x2 + 1) (L' := [(2, .int (x2 + 1)), (0, .ref (C.a 33)), (1, .int x1), (3, .int x3)]) d_fill33_14 2 rfl rfl (by decide) rfl ?_
      refine Y_goto (pc := 17) hC 5 d_fill33_17 rfl ?_
      refine Y_sub (pc := 5) [1, 2, 0, 3] rfl ?_
      exact ih _ _ h
set_option maxHeartbeats 4000000 in
set_option maxRecDepth 100000 in
theorem c_fill33 (l : Launch) (D : va_G) (cI cZ : ClassId) (a : Nat → Nat) {V : Sto} {p1 : Int32} {r : Int32} {V' : Sto} (h : f_fill33 V p1 = some (r, V')) : YMv l D cI cZ a shpC y_fill33 b_fill33 4 rm_fill33 true [.ref (a 33), .int p1] V V' := by
  refine YMv_of (by decide) (Nat.le_of_ble_eq_true rfl) ?_
  intro C hl hDD hcI hcZ ha hC hw hE
  subst hl hDD hcI hcZ ha
  show Y C shpC 4 0 [(0, .ref (C.a 33)), (1, .int p1)] [] V
  have hw := hw rfl
  rw [f_fill33] at h
  refine Y_iconst (pc := 0) hC d_fill33_0 ki_0 ?_
  refine Y_istore_n (pc := 1) hC (L' := [(2, .int 0), (0, .ref (C.a 33)), (1, .int p1)]) d_fill33_1 rfl (by decide) rfl ?_
  refine Y_aload_n (pc := 2) hC d_fill33_2 rfl 1 rfl ?_
  refine Y_alen (pc := 3) hC sc_33 rfl d_fill33_3 ?_
  refine Y_istore_n (pc := 4) hC (L' := [(3, .int (nI 97)), (2, .int 0), (0, .ref (C.a 33)), (1, .int p1)]) d_fill33_4 rfl (by decide) rfl ?_
  refine Y_sub (pc := 5) [2, 3, 1, 0] rfl ?_
  refine ylp_fill33_5 hC hw hE (fun V2 h => ?_) FU _ _ h
  exact Y_vret (pc := 20) hC hE d_fill33_20 h
set_option maxHeartbeats 4000000 in
set_option maxRecDepth 100000 in
theorem ylp_Re_putInOrder_10 {C : YC} {r : Int32} {V' : Sto} {x1 : Int32} {k41 : Sto → RT} (hC : YF C R_Re b_Re_putInOrder 4 rm_Re_putInOrder) (hw : YWr C shpC) (hE : YEv C shpC V') (hk41 : ∀ (V1 : Sto), k41 V1 = some (r, V') → Y C shpC 4 41 [(0, .ref (C.a 4)), (1, .int x1)] [] V1) : ∀ (n : Nat) (x2 : Int32) (V : Sto), lp_Re_putInOrder_10 k41 n x2 V = some (r, V') → Y C shpC 4 10 [(0, .ref (C.a 4)), (1, .int x1), (2, .int x2)] [] V := by
  intro n
  induction n with
  | zero =>
    intro x2 V h
    rw [lp_Re_putInOrder_10] at h
    cases h
  | succ n ih =>
    intro x2 V h
    rw [lp_Re_putInOrder_10] at h
    refine Y_iload_n (pc := 10) hC d_Re_putInOrder_10 rfl 2 rfl ?_
    refine Y_aload_n (pc := 11) hC d_Re_putInOrder_11 rfl 0 rfl ?_
    refine Y_getI (pc := 12) hC sc_4 fl_Re_36 rfl d_Re_putInOrder_12 ?_
    refine Y_icmp_ge (pc := 15) hC 41 d_Re_putInOrder_15 rfl (fun cc_15 => ?_) (fun cc_15 => ?_)
    · have h := ifp cc_15 h
      refine Y_sub (pc := 41) [0, 1] rfl ?_
      exact hk41 _ h
    · have h := ifn cc_15 h
      refine Y_aload_n (pc := 18) hC d_Re_putInOrder_18 rfl 0 rfl ?_
      refine Y_getR (pc := 19) hC sc_4 fl_Re_30 rfl d_Re_putInOrder_19 ?_
      refine Y_aload_n (pc := 22) hC d_Re_putInOrder_22 rfl 0 rfl ?_
      refine Y_getR (pc := 23) hC sc_4 fl_Re_9 rfl d_Re_putInOrder_23 ?_
      refine Y_iload_n (pc := 26) hC d_Re_putInOrder_26 rfl 2 rfl ?_
      obtain ⟨hi, h⟩ := ck_some h
      refine Y_iald (pc := 27) hC sc_27 rfl hi d_Re_putInOrder_27 ?_
      refine Y_iconst (pc := 28) hC d_Re_putInOrder_28 ki_1 ?_
      refine Y_iadd (pc := 29) hC d_Re_putInOrder_29 ?_
      refine Y_dup2 (pc := 30) hC d_Re_putInOrder_30 rfl rfl ?_
      obtain ⟨hi, h⟩ := ck_some h
      refine Y_iald (pc := 31) hC sc_33 rfl hi d_Re_putInOrder_31 ?_
      refine Y_iconst (pc := 32) hC d_Re_putInOrder_32 ki_1 ?_
      refine Y_iadd (pc := 33) hC d_Re_putInOrder_33 ?_
      obtain ⟨hi, h⟩ := ck_some h
      obtain ⟨V2, hV2, h⟩ := nm_some h
      refine Y_iast (pc := 34) hC sc_33 (by decide) rfl hi hw rfl hV2 d_Re_putInOrder_34 ?_
      refine Y_iinc (pc := 35) hC (v := x2 + 1) (L' := [(2, .int (x2 + 1)), (0, .ref (C.a 4)), (1, .int x1)]) d_Re_putInOrder_35 2 rfl rfl (by decide) rfl ?_
      refine Y_goto (pc := 38) hC 10 d_Re_putInOrder_38 rfl ?_
      refine Y_sub (pc := 10) [1, 2, 0] rfl ?_
      exact ih _ _ h
set_option maxHeartbeats 4000000 in
set_option maxRecDepth 100000 in
theorem ylp_Re_putInOrder_43 {C : YC} {r : Int32} {V' : Sto} {x1 : Int32} {k83 : Sto → RT} (hC : YF C R_Re b_Re_putInOrder 4 rm_Re_putInOrder) (hw : YWr C shpC) (hE : YEv C shpC V') (hk83 : ∀ (V1 : Sto), k83 V1 = some (r, V') → Y C shpC 4 83 [(0, .ref (C.a 4))] [] V1) : ∀ (n : Nat) (x2 : Int32) (V : Sto), lp_Re_putInOrder_43 x1 k83 n x2 V = some (r, V') → Y C shpC 4 43 [(0, .ref (C.a 4)), (1, .int x1), (2, .int x2)] [] V := by
  intro n
  induction n with
  | zero =>
    intro x2 V h
    rw [lp_Re_putInOrder_43] at h
    cases h
  | succ n ih =>
    intro x2 V h
    rw [lp_Re_putInOrder_43] at h
    refine Y_iload_n (pc := 43) hC d_Re_putInOrder_43 rfl 2 rfl ?_
    refine Y_iload_n (pc := 44) hC d_Re_putInOrder_44 rfl 1 rfl ?_
    refine Y_icmp_ge (pc := 45) hC 83 d_Re_putInOrder_45 rfl (fun cc_45 => ?_) (fun cc_45 => ?_)
    · have h := ifp cc_45 h
      refine Y_sub (pc := 83) [0] rfl ?_
      exact hk83 _ h
    · have h := ifn cc_45 h
      refine Y_aload_n (pc := 48) hC d_Re_putInOrder_48 rfl 0 rfl ?_
      refine Y_getR (pc := 49) hC sc_4 fl_Re_30 rfl d_Re_putInOrder_49 ?_
      refine Y_iload_n (pc := 52) hC d_Re_putInOrder_52 rfl 2 rfl ?_
      refine Y_iconst (pc := 53) hC d_Re_putInOrder_53 ki_1 ?_
      refine Y_iadd (pc := 54) hC d_Re_putInOrder_54 ?_
      refine Y_dup2 (pc := 55) hC d_Re_putInOrder_55 rfl rfl ?_
      obtain ⟨hi, h⟩ := ck_some h
      refine Y_iald (pc := 56) hC sc_33 rfl hi d_Re_putInOrder_56 ?_
      refine Y_aload_n (pc := 57) hC d_Re_putInOrder_57 rfl 0 rfl ?_
      refine Y_getR (pc := 58) hC sc_4 fl_Re_30 rfl d_Re_putInOrder_58 ?_
      refine Y_iload_n (pc := 61) hC d_Re_putInOrder_61 rfl 2 rfl ?_
      obtain ⟨hi, h⟩ := ck_some h
      refine Y_iald (pc := 62) hC sc_33 rfl hi d_Re_putInOrder_62 ?_
      refine Y_iadd (pc := 63) hC d_Re_putInOrder_63 ?_
      obtain ⟨hi, h⟩ := ck_some h
      obtain ⟨V4, hV4, h⟩ := nm_some h
      refine Y_iast (pc := 64) hC sc_33 (by decide) rfl hi hw rfl hV4 d_Re_putInOrder_64 ?_
      refine Y_aload_n (pc := 65) hC d_Re_putInOrder_65 rfl 0 rfl ?_
      refine Y_getR (pc := 66) hC sc_4 fl_Re_33 rfl d_Re_putInOrder_66 ?_
      refine Y_iload_n (pc := 69) hC d_Re_putInOrder_69 rfl 2 rfl ?_
      refine Y_aload_n (pc := 70) hC d_Re_putInOrder_70 rfl 0 rfl ?_
      refine Y_getR (pc := 71) hC sc_4 fl_Re_30 rfl d_Re_putInOrder_71 ?_
      refine Y_iload_n (pc := 74) hC d_Re_putInOrder_74 rfl 2 rfl ?_
      obtain ⟨hi, h⟩ := ck_some h
      refine Y_iald (pc := 75) hC sc_33 rfl hi d_Re_putInOrder_75 ?_
      obtain ⟨hi, h⟩ := ck_some h
      obtain ⟨V5, hV5, h⟩ := nm_some h
      refine Y_iast (pc := 76) hC sc_34 (by decide) rfl hi hw rfl hV5 d_Re_putInOrder_76 ?_
      refine Y_iinc (pc := 77) hC (v := x2 + 1) (L' := [(2, .int (x2 + 1)), (0, .ref (C.a 4)), (1, .int x1)]) d_Re_putInOrder_77 2 rfl rfl (by decide) rfl ?_
      refine Y_goto (pc := 80) hC 43 d_Re_putInOrder_80 rfl ?_
      refine Y_sub (pc := 43) [1, 2, 0] rfl ?_
      exact ih _ _ h
set_option maxHeartbeats 4000000 in
set_option maxRecDepth 100000 in
theorem ylp_Re_putInOrder_85 {C : YC} {r : Int32} {V' : Sto} {k128 : Sto → RT} (hC : YF C R_Re b_Re_putInOrder 4 rm_Re_putInOrder) (hw : YWr C shpC) (hE : YEv C shpC V') (hk128 : ∀ (V1 : Sto), k128 V1 = some (r, V') → Y C shpC 4 128 [] [] V1) : ∀ (n : Nat) (x2 : Int32) (V : Sto), lp_Re_putInOrder_85 k128 n x2 V = some (r, V') → Y C shpC 4 85 [(0, .ref (C.a 4)), (2, .int x2)] [] V := by
  intro n
  induction n with
  | zero =>
    intro x2 V h
    rw [lp_Re_putInOrder_85] at h
    cases h
  | succ n ih =>
    intro x2 V h
    rw [lp_Re_putInOrder_85] at h
    refine Y_iload_n (pc := 85) hC d_Re_putInOrder_85 rfl 1 rfl ?_
    refine Y_aload_n (pc := 86) hC d_Re_putInOrder_86 rfl 0 rfl ?_
    refine Y_getI (pc := 87) hC sc_4 fl_Re_36 rfl d_Re_putInOrder_87 ?_
    refine Y_icmp_ge (pc := 90) hC 128 d_Re_putInOrder_90 rfl (fun cc_90 => ?_) (fun cc_90 => ?_)
    · have h := ifp cc_90 h
      refine Y_sub (pc := 128) [] rfl ?_
      exact hk128 _ h
    · have h := ifn cc_90 h
      refine Y_aload_n (pc := 93) hC d_Re_putInOrder_93 rfl 0 rfl ?_
      refine Y_getR (pc := 94) hC sc_4 fl_Re_9 rfl d_Re_putInOrder_94 ?_
      refine Y_iload_n (pc := 97) hC d_Re_putInOrder_97 rfl 1 rfl ?_
      obtain ⟨hi, h⟩ := ck_some h
      refine Y_iald (pc := 98) hC sc_27 rfl hi d_Re_putInOrder_98 ?_
      refine Y_istore_n (pc := 99) hC (L' := [(3, .int (V 27 x2.toNatClampNeg)), (0, .ref (C.a 4)), (2, .int x2)]) d_Re_putInOrder_99 rfl (by decide) rfl ?_
      refine Y_aload_n (pc := 100) hC d_Re_putInOrder_100 rfl 1 rfl ?_
      refine Y_getR (pc := 101) hC sc_4 fl_Re_27 rfl d_Re_putInOrder_101 ?_
      refine Y_aload_n (pc := 104) hC d_Re_putInOrder_104 rfl 1 rfl ?_
      refine Y_getR (pc := 105) hC sc_4 fl_Re_33 rfl d_Re_putInOrder_105 ?_
      refine Y_iload_n (pc := 108) hC d_Re_putInOrder_108 rfl 0 rfl ?_
      obtain ⟨hi, h⟩ := ck_some h
      refine Y_iald (pc := 109) hC sc_34 rfl hi d_Re_putInOrder_109 ?_
      refine Y_iload_n (pc := 110) hC d_Re_putInOrder_110 rfl 2 rfl ?_
      obtain ⟨hi, h⟩ := ck_some h
      obtain ⟨V7, hV7, h⟩ := nm_some h
      refine Y_iast (pc := 111) hC sc_32 (by decide) rfl hi hw rfl hV7 d_Re_putInOrder_111 ?_
      refine Y_aload_n (pc := 112) hC d_Re_putInOrder_112 rfl 1 rfl ?_
      refine Y_getR (pc := 113) hC sc_4 fl_Re_33 rfl d_Re_putInOrder_113 ?_
      refine Y_iload_n (pc := 116) hC d_Re_putInOrder_116 rfl 0 rfl ?_
      refine Y_dup2 (pc := 117) hC d_Re_putInOrder_117 rfl rfl ?_
      obtain ⟨hi, h⟩ := ck_some h
      refine Y_iald (pc := 118) hC sc_34 rfl hi d_Re_putInOrder_118 ?_
      refine Y_iconst (pc := 119) hC d_Re_putInOrder_119 ki_1 ?_
      refine Y_iadd (pc := 120) hC d_Re_putInOrder_120 ?_
      obtain ⟨hi, h⟩ := ck_some h
      obtain ⟨V8, hV8, h⟩ := nm_some h
      refine Y_iast (pc := 121) hC sc_34 (by decide) rfl hi hw rfl hV8 d_Re_putInOrder_121 ?_
      refine Y_iinc (pc := 122) hC (v := x2 + 1) (L' := [(2, .int (x2 + 1)), (3, .int (V 27 x2.toNatClampNeg)), (0, .ref (C.a 4))]) d_Re_putInOrder_122 2 rfl rfl (by decide) rfl ?_
      refine Y_goto (pc := 125) hC 85 d_Re_putInOrder_125 rfl ?_
      refine Y_sub (pc := 85) [2, 0] rfl ?_
      exact ih _ _ h
set_option maxHeartbeats 4000000 in
set_option maxRecDepth 100000 in
theorem c_Re_putInOrder (l : Launch) (D : va_G) (cI cZ : ClassId) (a : Nat → Nat) {V : Sto} {p1 : Int32} {r : Int32} {V' : Sto} (h : f_Re_putInOrder V p1 = some (r, V')) : YMv l D cI cZ a shpC y_Re_putInOrder b_Re_putInOrder 4 rm_Re_putInOrder true [.ref (a 4), .int p1] V V' := by
  refine YMv_of (by decide) (Nat.le_of_ble_eq_true rfl) ?_
  intro C hl hDD hcI hcZ ha hC hw hE
  subst hl hDD hcI hcZ ha
  show Y C shpC 4 0 [(0, .ref (C.a 4)), (1, .int p1)] [] V
  have hw := hw rfl
  rw [f_Re_putInOrder] at h
  refine Y_aload_n (pc := 0) hC d_Re_putInOrder_0 rfl 0 rfl ?_
  refine Y_getR (pc := 1) hC sc_4 fl_Re_30 rfl d_Re_putInOrder_1 ?_
  refine Y_iconst (pc := 4) hC d_Re_putInOrder_4 ki_0 ?_
  obtain ⟨r1, V1, hc_r1, h⟩ := cl_some h
  refine Y_callSv (pc := 5) hC (c_fill33 C.l C.D C.cI C.cZ C.a hc_r1) (fun _ => hw) ml_Re_40 ms_fill33 (by decide) (Nat.le_of_ble_eq_true rfl) rfl d_Re_putInOrder_5 ?_
  refine Y_iconst (pc := 8) hC d_Re_putInOrder_8 ki_0 ?_
  refine Y_istore_n (pc := 9) hC (L' := [(2, .int 0), (0, .ref (C.a 4)), (1, .int p1)]) d_Re_putInOrder_9 rfl (by decide) rfl ?_
  refine Y_sub (pc := 10) [1, 2, 0] rfl ?_
  refine ylp_Re_putInOrder_10 hC hw hE (fun V3 h => ?_) FU _ _ h
  refine Y_iconst (pc := 41) hC d_Re_putInOrder_41 ki_0 ?_
  refine Y_istore_n (pc := 42) hC (L' := [(2, .int 0), (0, .ref (C.a 4)), (1, .int p1)]) d_Re_putInOrder_42 rfl (by decide) rfl ?_
  refine Y_sub (pc := 43) [1, 2, 0] rfl ?_
  refine ylp_Re_putInOrder_43 hC hw hE (fun V6 h => ?_) FU _ _ h
  refine Y_iconst (pc := 83) hC d_Re_putInOrder_83 ki_0 ?_
  refine Y_istore_n (pc := 84) hC (L' := [(2, .int 0), (0, .ref (C.a 4))]) d_Re_putInOrder_84 rfl (by decide) rfl ?_
  refine Y_sub (pc := 85) [1, 0] rfl ?_
  refine ylp_Re_putInOrder_85 hC hw hE (fun V9 h => ?_) FU _ _ h
  exact Y_vret (pc := 128) hC hE d_Re_putInOrder_128 h
set_option maxHeartbeats 4000000 in
set_option maxRecDepth 100000 in
theorem c_Ly_fails (l : Launch) (D : va_G) (cI cZ : ClassId) (a : Nat → Nat) {V : Sto} {p1 : Int32} {p2 : Int32} {p3 : Int32} {r : Int32} {V' : Sto} (h : f_Ly_fails V p1 p2 p3 = some (r, V')) : YMi l D cI cZ a shpC y_Ly_fails b_Ly_fails 4 (some .boolean) rm_Ly_fails true [.ref (a 0), .int p1, .int p2, .int p3] V r V' := by
  refine YMi_of (by decide) (Nat.le_of_ble_eq_true rfl) ?_
  intro C hl hDD hcI hcZ ha hC hw hE
  subst hl hDD hcI hcZ ha
  show Y C shpC 4 0 [(0, .ref (C.a 0)), (1, .int p1), (2, .int p2), (3, .int p3)] [] V
  have hw := hw rfl
  rw [f_Ly_fails] at h
  refine Y_aload_n (pc := 0) hC d_Ly_fails_0 rfl 0 rfl ?_
  refine Y_iload_n (pc := 1) hC d_Ly_fails_1 rfl 1 rfl ?_
  obtain ⟨V1, hV1, h⟩ := nm_some h
  refine Y_put (pc := 2) hC sc_0 fl_Ly_249 rfl (by decide) fp_Ly ft_Ly_15 rfl rfl hw hV1 d_Ly_fails_2 ?_
  refine Y_aload_n (pc := 5) hC d_Ly_fails_5 rfl 0 rfl ?_
  refine Y_iload_n (pc := 6) hC d_Ly_fails_6 rfl 2 rfl ?_
  obtain ⟨V2, hV2, h⟩ := nm_some h
  refine Y_put (pc := 7) hC sc_0 fl_Ly_102 rfl (by decide) fp_Ly ft_Ly_16 rfl rfl hw hV2 d_Ly_fails_7 ?_
  refine Y_aload_n (pc := 10) hC d_Ly_fails_10 rfl 0 rfl ?_
  refine Y_iload_n (pc := 11) hC d_Ly_fails_11 rfl 3 rfl ?_
  obtain ⟨V3, hV3, h⟩ := nm_some h
  refine Y_put (pc := 12) hC sc_0 fl_Ly_105 rfl (by decide) fp_Ly ft_Ly_17 rfl rfl hw hV3 d_Ly_fails_12 ?_
  refine Y_iconst (pc := 15) hC d_Ly_fails_15 ki_0 ?_
  exact Y_zret (pc := 16) hC hE d_Ly_fails_16 rfl h
set_option maxHeartbeats 4000000 in
set_option maxRecDepth 100000 in
theorem c_Ly_linksNames (l : Launch) (D : va_G) (cI cZ : ClassId) (a : Nat → Nat) {V : Sto} {r : Int32} {V' : Sto} (h : f_Ly_linksNames V = some (r, V')) : YMi l D cI cZ a shpC y_Ly_linksNames b_Ly_linksNames 2 (some .boolean) rm_Ly_linksNames true [.ref (a 0)] V r V' := by
  refine YMi_of (by decide) (Nat.le_of_ble_eq_true rfl) ?_
  intro C hl hDD hcI hcZ ha hC hw hE
  subst hl hDD hcI hcZ ha
  show Y C shpC 2 0 [(0, .ref (C.a 0))] [] V
  have hw := hw rfl
  rw [f_Ly_linksNames] at h
  refine Y_aload_n (pc := 0) hC d_Ly_linksNames_0 rfl 0 rfl ?_
  refine Y_getR (pc := 1) hC sc_0 fl_Ly_33 rfl d_Ly_linksNames_1 ?_
  refine Y_aload_n (pc := 4) hC d_Ly_linksNames_4 rfl 0 rfl ?_
  refine Y_getR (pc := 5) hC sc_0 fl_Ly_19 rfl d_Ly_linksNames_5 ?_
  refine Y_getI (pc := 8) hC sc_2 fl_Ly_145 rfl d_Ly_linksNames_8 ?_
  obtain ⟨r1, V1, hc_r1, h⟩ := cl_some h
  refine Y_callVv (pc := 11) hC (c_Re_putInOrder C.l C.D C.cI C.cZ C.a hc_r1) (fun _ => hw) sc_4 cls_Re ml_Ly_328 mv_Re_putInOrder (by decide) (Nat.le_of_ble_eq_true rfl) rfl d_Ly_linksNames_11 ?_
  refine Y_aload_n (pc := 14) hC d_Ly_linksNames_14 rfl 0 rfl ?_
  refine Y_getR (pc := 15) hC sc_0 fl_Ly_42 rfl d_Ly_linksNames_15 ?_
  refine Y_aload_n (pc := 18) hC d_Ly_linksNames_18 rfl 0 rfl ?_
  refine Y_getI (pc := 19) hC sc_0 fl_Ly_98 rfl d_Ly_linksNames_19 ?_
  refine Y_aload_n (pc := 22) hC d_Ly_linksNames_22 rfl 0 rfl ?_
  refine Y_getI (pc := 23) hC sc_0 fl_Ly_227 rfl d_Ly_linksNames_23 ?_
  obtain ⟨r2, V2, hc_r2, h⟩ := cl_some h
  refine Y_callVv (pc := 26) hC (c_Ar_bringIn C.l C.D C.cI C.cZ C.a hc_r2) (fun _ => hw) sc_5 cls_Ar ml_Ly_331 mv_Ar_bringIn (by decide) (Nat.le_of_ble_eq_true rfl) rfl d_Ly_linksNames_26 ?_
  refine Y_aload_n (pc := 29) hC d_Ly_linksNames_29 rfl 0 rfl ?_
  refine Y_getR (pc := 30) hC sc_0 fl_Ly_49 rfl d_Ly_linksNames_30 ?_
  obtain ⟨r3, V3, hc_r3, h⟩ := cl_some h
  refine Y_callVv (pc := 33) hC (c_Na_settle C.l C.D C.cI C.cZ C.a hc_r3) (fun _ => hw) sc_6 cls_Na ml_Ly_335 mv_Na_settle (by decide) (Nat.le_of_ble_eq_true rfl) rfl d_Ly_linksNames_33 ?_
  refine Y_aload_n (pc := 36) hC d_Ly_linksNames_36 rfl 0 rfl ?_
  refine Y_getR (pc := 37) hC sc_0 fl_Ly_49 rfl d_Ly_linksNames_37 ?_
  refine Y_getI (pc := 40) hC sc_6 fl_Ly_338 rfl d_Ly_linksNames_40 ?_
  refine Y_iconst (pc := 43) hC d_Ly_linksNames_43 ki_m1 ?_
  refine Y_icmp_eq (pc := 44) hC 61 d_Ly_linksNames_44 rfl (fun cc_44 => ?_) (fun cc_44 => ?_)
  · have h := ifp cc_44 h
    refine Y_aload_n (pc := 61) hC d_Ly_linksNames_61 rfl 0 rfl ?_
    refine Y_getI (pc := 62) hC sc_0 fl_Ly_98 rfl d_Ly_linksNames_62 ?_
    refine Y_iconst (pc := 65) hC d_Ly_linksNames_65 ki_m1 ?_
    refine Y_icmp_eq (pc := 66) hC 94 d_Ly_linksNames_66 rfl (fun cc_66 => ?_) (fun cc_66 => ?_)
    · have h := ifp cc_66 h
      refine Y_aload_n (pc := 94) hC d_Ly_linksNames_94 rfl 0 rfl ?_
      refine Y_getR (pc := 95) hC sc_0 fl_Ly_58 rfl d_Ly_linksNames_95 ?_
      refine Y_aload_n (pc := 98) hC d_Ly_linksNames_98 rfl 0 rfl ?_
      refine Y_getI (pc := 99) hC sc_0 fl_Ly_98 rfl d_Ly_linksNames_99 ?_
      refine Y_iconst (pc := 102) hC d_Ly_linksNames_102 ki_m1 ?_
      obtain ⟨j1, hj1, h⟩ := jn_some h
      have kj1 : ∀ (z1 : Int32) (V5 : Sto), j1 z1 V5 = some (r, V') → Y C shpC 2 121 [(0, .ref (C.a 0))] [.int z1, .ref (C.a 7)] V5 := by
        intro z1 V5 h
        subst hj1
        dsimp only at h
        obtain ⟨r5, V6, hc_r5, h⟩ := cl_some h
        refine Y_callVv (pc := 121) hC (c_Rc_spread C.l C.D C.cI C.cZ C.a hc_r5) (fun _ => hw) sc_7 cls_Rc ml_Ly_350 mv_Rc_spread (by decide) (Nat.le_of_ble_eq_true rfl) rfl d_Ly_linksNames_121 ?_
        refine Y_aload_n (pc := 124) hC d_Ly_linksNames_124 rfl 0 rfl ?_
        refine Y_getR (pc := 125) hC sc_0 fl_Ly_58 rfl d_Ly_linksNames_125 ?_
        obtain ⟨r6, V7, hc_r6, h⟩ := cl_some h
        refine Y_callV (pc := 128) hC (c_Rc_firstMissing C.l C.D C.cI C.cZ C.a hc_r6) (fun q => nomatch q) sc_7 cls_Rc ml_Ly_353 mv_Rc_firstMissing (by decide) (Nat.le_of_ble_eq_true rfl) rfl d_Ly_linksNames_128 ?_
        refine Y_istore_n (pc := 131) hC (L' := [(1, .int r6), (0, .ref (C.a 0))]) d_Ly_linksNames_131 rfl (by decide) rfl ?_
        refine Y_iload_n (pc := 132) hC d_Ly_linksNames_132 rfl 0 rfl ?_
        refine Y_iconst (pc := 133) hC d_Ly_linksNames_133 ki_m1 ?_
        refine Y_icmp_eq (pc := 134) hC 161 d_Ly_linksNames_134 rfl (fun cc_134 => ?_) (fun cc_134 => ?_)
        · have h := ifp cc_134 h
          refine Y_iconst (pc := 161) hC d_Ly_linksNames_161 ki_1 ?_
          exact Y_zret (pc := 162) hC hE d_Ly_linksNames_162 rfl h
        · have h := ifn cc_134 h
          refine Y_aload_n (pc := 137) hC d_Ly_linksNames_137 rfl 1 rfl ?_
          refine Y_iconst (pc := 138) hC d_Ly_linksNames_138 ki_2 ?_
          refine Y_aload_n (pc := 139) hC d_Ly_linksNames_139 rfl 1 rfl ?_
          refine Y_getR (pc := 140) hC sc_0 fl_Ly_26 rfl d_Ly_linksNames_140 ?_
          refine Y_getR (pc := 143) hC sc_3 fl_Ly_356 rfl d_Ly_linksNames_143 ?_
          refine Y_aload_n (pc := 146) hC d_Ly_linksNames_146 rfl 1 rfl ?_
          refine Y_getR (pc := 147) hC sc_0 fl_Ly_33 rfl d_Ly_linksNames_147 ?_
          refine Y_getR (pc := 150) hC sc_4 fl_Ly_359 rfl d_Ly_linksNames_150 ?_
          refine Y_iload_n (pc := 153) hC d_Ly_linksNames_153 rfl 0 rfl ?_
          obtain ⟨hi, h⟩ := ck_some h
          refine Y_iald (pc := 154) hC sc_30 rfl hi d_Ly_linksNames_154 ?_
          obtain ⟨hi, h⟩ := ck_some h
          refine Y_iald (pc := 155) hC sc_22 rfl hi d_Ly_linksNames_155 ?_
          refine Y_iload_n (pc := 156) hC d_Ly_linksNames_156 rfl 0 rfl ?_
          obtain ⟨r7, V8, hc_r7, h⟩ := cl_some h
          refine Y_callV (pc := 157) hC (c_Ly_fails C.l C.D C.cI C.cZ C.a hc_r7) (fun _ => hw) sc_0 cls_Ly ml_Ly_341 mv_Ly_fails (by decide) (Nat.le_of_ble_eq_true rfl) rfl d_Ly_linksNames_157 ?_
          obtain ⟨hbb, h⟩ := ck_some h
          exact Y_zret (pc := 160) hC hE d_Ly_linksNames_160 hbb h
      refine Y_icmp_ne (pc := 103) hC 110 d_Ly_linksNames_103 rfl (fun cc_103 => ?_) (fun cc_103 => ?_)
      · have h := ifn cc_103 h
        refine Y_aload_n (pc := 110) hC d_Ly_linksNames_110 rfl 0 rfl ?_
        refine Y_getR (pc := 111) hC sc_0 fl_Ly_49 rfl d_Ly_linksNames_111 ?_
        refine Y_aload_n (pc := 114) hC d_Ly_linksNames_114 rfl 0 rfl ?_
        refine Y_getI (pc := 115) hC sc_0 fl_Ly_98 rfl d_Ly_linksNames_115 ?_
        obtain ⟨r4, V4, hc_r4, h⟩ := cl_some h
        refine Y_callV (pc := 118) hC (c_Na_sectionOf C.l C.D C.cI C.cZ C.a hc_r4) (fun q => nomatch q) sc_6 cls_Na ml_Ly_347 mv_Na_sectionOf (by decide) (Nat.le_of_ble_eq_true rfl) rfl d_Ly_linksNames_118 ?_
        refine Y_sub (pc := 121) [0] rfl ?_
        exact kj1 _ _ h
      · have h := ifp cc_103 h
        refine Y_iconst (pc := 106) hC d_Ly_linksNames_106 ki_m1 ?_
        refine Y_goto (pc := 107) hC 121 d_Ly_linksNames_107 rfl ?_
        refine Y_sub (pc := 121) [0] rfl ?_
        exact kj1 _ _ h
    · have h := ifn cc_66 h
      refine Y_aload_n (pc := 69) hC d_Ly_linksNames_69 rfl 0 rfl ?_
      refine Y_getR (pc := 70) hC sc_0 fl_Ly_49 rfl d_Ly_linksNames_70 ?_
      refine Y_aload_n (pc := 73) hC d_Ly_linksNames_73 rfl 0 rfl ?_
      refine Y_getI (pc := 74) hC sc_0 fl_Ly_98 rfl d_Ly_linksNames_74 ?_
      obtain ⟨r8, V9, hc_r8, h⟩ := cl_some h
      refine Y_callV (pc := 77) hC (c_Na_isDefined C.l C.D C.cI C.cZ C.a hc_r8) (fun q => nomatch q) sc_6 cls_Na ml_Ly_344 mv_Na_isDefined (by decide) (Nat.le_of_ble_eq_true rfl) rfl d_Ly_linksNames_77 ?_
      refine Y_if_ne (pc := 80) hC 94 d_Ly_linksNames_80 rfl (fun cc_80 => ?_) (fun cc_80 => ?_)
      · have h := ifn cc_80 h
        refine Y_aload_n (pc := 94) hC d_Ly_linksNames_94 rfl 0 rfl ?_
        refine Y_getR (pc := 95) hC sc_0 fl_Ly_58 rfl d_Ly_linksNames_95 ?_
        refine Y_aload_n (pc := 98) hC d_Ly_linksNames_98 rfl 0 rfl ?_
        refine Y_getI (pc := 99) hC sc_0 fl_Ly_98 rfl d_Ly_linksNames_99 ?_
        refine Y_iconst (pc := 102) hC d_Ly_linksNames_102 ki_m1 ?_
        obtain ⟨j2, hj2, h⟩ := jn_some h
        have kj2 : ∀ (z2 : Int32) (V11 : Sto), j2 z2 V11 = some (r, V') → Y C shpC 2 121 [(0, .ref (C.a 0))] [.int z2, .ref (C.a 7)] V11 := by
          intro z2 V11 h
          subst hj2
          dsimp only at h
          obtain ⟨r10, V12, hc_r10, h⟩ := cl_some h
          refine Y_callVv (pc := 121) hC (c_Rc_spread C.l C.D C.cI C.cZ C.a hc_r10) (fun _ => hw) sc_7 cls_Rc ml_Ly_350 mv_Rc_spread (by decide) (Nat.le_of_ble_eq_true rfl) rfl d_Ly_linksNames_121 ?_
          refine Y_aload_n (pc := 124) hC d_Ly_linksNames_124 rfl 0 rfl ?_
          refine Y_getR (pc := 125) hC sc_0 fl_Ly_58 rfl d_Ly_linksNames_125 ?_
          obtain ⟨r11, V13, hc_r11, h⟩ := cl_some h
          refine Y_callV (pc := 128) hC (c_Rc_firstMissing C.l C.D C.cI C.cZ C.a hc_r11) (fun q => nomatch q) sc_7 cls_Rc ml_Ly_353 mv_Rc_firstMissing (by decide) (Nat.le_of_ble_eq_true rfl) rfl d_Ly_linksNames_128 ?_
          refine Y_istore_n (pc := 131) hC (L' := [(1, .int r11), (0, .ref (C.a 0))]) d_Ly_linksNames_131 rfl (by decide) rfl ?_
          refine Y_iload_n (pc := 132) hC d_Ly_linksNames_132 rfl 0 rfl ?_
          refine Y_iconst (pc := 133) hC d_Ly_linksNames_133 ki_m1 ?_
          refine Y_icmp_eq (pc := 134) hC 161 d_Ly_linksNames_134 rfl (fun cc_134 => ?_) (fun cc_134 => ?_)
          · have h := ifp cc_134 h
            refine Y_iconst (pc := 161) hC d_Ly_linksNames_161 ki_1 ?_
            exact Y_zret (pc := 162) hC hE d_Ly_linksNames_162 rfl h
          · have h := ifn cc_134 h
            refine Y_aload_n (pc := 137) hC d_Ly_linksNames_137 rfl 1 rfl ?_
            refine Y_iconst (pc := 138) hC d_Ly_linksNames_138 ki_2 ?_
            refine Y_aload_n (pc := 139) hC d_Ly_linksNames_139 rfl 1 rfl ?_
            refine Y_getR (pc := 140) hC sc_0 fl_Ly_26 rfl d_Ly_linksNames_140 ?_
            refine Y_getR (pc := 143) hC sc_3 fl_Ly_356 rfl d_Ly_linksNames_143 ?_
            refine Y_aload_n (pc := 146) hC d_Ly_linksNames_146 rfl 1 rfl ?_
            refine Y_getR (pc := 147) hC sc_0 fl_Ly_33 rfl d_Ly_linksNames_147 ?_
            refine Y_getR (pc := 150) hC sc_4 fl_Ly_359 rfl d_Ly_linksNames_150 ?_
            refine Y_iload_n (pc := 153) hC d_Ly_linksNames_153 rfl 0 rfl ?_
            obtain ⟨hi, h⟩ := ck_some h
            refine Y_iald (pc := 154) hC sc_30 rfl hi d_Ly_linksNames_154 ?_
            obtain ⟨hi, h⟩ := ck_some h
            refine Y_iald (pc := 155) hC sc_22 rfl hi d_Ly_linksNames_155 ?_
            refine Y_iload_n (pc := 156) hC d_Ly_linksNames_156 rfl 0 rfl ?_
            obtain ⟨r12, V14, hc_r12, h⟩ := cl_some h
            refine Y_callV (pc := 157) hC (c_Ly_fails C.l C.D C.cI C.cZ C.a hc_r12) (fun _ => hw) sc_0 cls_Ly ml_Ly_341 mv_Ly_fails (by decide) (Nat.le_of_ble_eq_true rfl) rfl d_Ly_linksNames_157 ?_
            obtain ⟨hbb, h⟩ := ck_some h
            exact Y_zret (pc := 160) hC hE d_Ly_linksNames_160 hbb h
        refine Y_icmp_ne (pc := 103) hC 110 d_Ly_linksNames_103 rfl (fun cc_103 => ?_) (fun cc_103 => ?_)
        · have h := ifn cc_103 h
          refine Y_aload_n (pc := 110) hC d_Ly_linksNames_110 rfl 0 rfl ?_
          refine Y_getR (pc := 111) hC sc_0 fl_Ly_49 rfl d_Ly_linksNames_111 ?_
          refine Y_aload_n (pc := 114) hC d_Ly_linksNames_114 rfl 0 rfl ?_
          refine Y_getI (pc := 115) hC sc_0 fl_Ly_98 rfl d_Ly_linksNames_115 ?_
          obtain ⟨r9, V10, hc_r9, h⟩ := cl_some h
          refine Y_callV (pc := 118) hC (c_Na_sectionOf C.l C.D C.cI C.cZ C.a hc_r9) (fun q => nomatch q) sc_6 cls_Na ml_Ly_347 mv_Na_sectionOf (by decide) (Nat.le_of_ble_eq_true rfl) rfl d_Ly_linksNames_118 ?_
          refine Y_sub (pc := 121) [0] rfl ?_
          exact kj2 _ _ h
        · have h := ifp cc_103 h
          refine Y_iconst (pc := 106) hC d_Ly_linksNames_106 ki_m1 ?_
          refine Y_goto (pc := 107) hC 121 d_Ly_linksNames_107 rfl ?_
          refine Y_sub (pc := 121) [0] rfl ?_
          exact kj2 _ _ h
      · have h := ifp cc_80 h
        refine Y_aload_n (pc := 83) hC d_Ly_linksNames_83 rfl 0 rfl ?_
        refine Y_iconst (pc := 84) hC d_Ly_linksNames_84 ki_2 ?_
        refine Y_aload_n (pc := 85) hC d_Ly_linksNames_85 rfl 0 rfl ?_
        refine Y_getI (pc := 86) hC sc_0 fl_Ly_98 rfl d_Ly_linksNames_86 ?_
        refine Y_iconst (pc := 89) hC d_Ly_linksNames_89 ki_m1 ?_
        obtain ⟨r13, V15, hc_r13, h⟩ := cl_some h
        refine Y_callV (pc := 90) hC (c_Ly_fails C.l C.D C.cI C.cZ C.a hc_r13) (fun _ => hw) sc_0 cls_Ly ml_Ly_341 mv_Ly_fails (by decide) (Nat.le_of_ble_eq_true rfl) rfl d_Ly_linksNames_90 ?_
        obtain ⟨hbb, h⟩ := ck_some h
        exact Y_zret (pc := 93) hC hE d_Ly_linksNames_93 hbb h
  · have h := ifn cc_44 h
    refine Y_aload_n (pc := 47) hC d_Ly_linksNames_47 rfl 0 rfl ?_
    refine Y_iconst (pc := 48) hC d_Ly_linksNames_48 ki_1 ?_
    refine Y_aload_n (pc := 49) hC d_Ly_linksNames_49 rfl 0 rfl ?_
    refine Y_getR (pc := 50) hC sc_0 fl_Ly_49 rfl d_Ly_linksNames_50 ?_
    refine Y_getI (pc := 53) hC sc_6 fl_Ly_338 rfl d_Ly_linksNames_53 ?_
    refine Y_iconst (pc := 56) hC d_Ly_linksNames_56 ki_m1 ?_
    obtain ⟨r14, V16, hc_r14, h⟩ := cl_some h
    refine Y_callV (pc := 57) hC (c_Ly_fails C.l C.D C.cI C.cZ C.a hc_r14) (fun _ => hw) sc_0 cls_Ly ml_Ly_341 mv_Ly_fails (by decide) (Nat.le_of_ble_eq_true rfl) rfl d_Ly_linksNames_57 ?_
    obtain ⟨hbb, h⟩ := ck_some h
    exact Y_zret (pc := 60) hC hE d_Ly_linksNames_60 hbb h
set_option maxHeartbeats 4000000 in
set_option maxRecDepth 100000 in
theorem c_Fo_isSame (l : Launch) (D : va_G) (cI cZ : ClassId) (a : Nat → Nat) {V : Sto} {p1 : Int32} {p2 : Int32} {r : Int32} {V' : Sto} (h : f_Fo_isSame V p1 p2 = some (r, V')) : YMi l D cI cZ a shpC y_Fo_isSame b_Fo_isSame 5 (some .boolean) rm_Fo_isSame false [.ref (a 8), .int p1, .int p2] V r V' := by
  refine YMi_of (by decide) (Nat.le_of_ble_eq_true rfl) ?_
  intro C hl hDD hcI hcZ ha hC hw hE
  subst hl hDD hcI hcZ ha
  show Y C shpC 5 0 [(0, .ref (C.a 8)), (1, .int p1), (2, .int p2)] [] V
  rw [f_Fo_isSame] at h
  refine Y_aload_n (pc := 0) hC d_Fo_isSame_0 rfl 0 rfl ?_
  refine Y_getR (pc := 1) hC sc_8 fl_Fo_22 rfl d_Fo_isSame_1 ?_
  refine Y_getR (pc := 4) hC sc_4 fl_Fo_98 rfl d_Fo_isSame_4 ?_
  refine Y_iload_n (pc := 7) hC d_Fo_isSame_7 rfl 1 rfl ?_
  obtain ⟨hi, h⟩ := ck_some h
  refine Y_iald (pc := 8) hC sc_30 rfl hi d_Fo_isSame_8 ?_
  refine Y_istore_n (pc := 9) hC (L' := [(3, .int (V 30 p1.toNatClampNeg)), (0, .ref (C.a 8)), (1, .int p1), (2, .int p2)]) d_Fo_isSame_9 rfl (by decide) rfl ?_
  refine Y_aload_n (pc := 10) hC d_Fo_isSame_10 rfl 1 rfl ?_
  refine Y_getR (pc := 11) hC sc_8 fl_Fo_22 rfl d_Fo_isSame_11 ?_
  refine Y_getR (pc := 14) hC sc_4 fl_Fo_98 rfl d_Fo_isSame_14 ?_
  refine Y_iload_n (pc := 17) hC d_Fo_isSame_17 rfl 3 rfl ?_
  obtain ⟨hi, h⟩ := ck_some h
  refine Y_iald (pc := 18) hC sc_30 rfl hi d_Fo_isSame_18 ?_
  refine Y_istore (pc := 19) hC (L' := [(4, .int (V 30 p2.toNatClampNeg)), (3, .int (V 30 p1.toNatClampNeg)), (0, .ref (C.a 8)), (1, .int p1), (2, .int p2)]) d_Fo_isSame_19 (by decide) rfl ?_
  refine Y_aload_n (pc := 21) hC d_Fo_isSame_21 rfl 2 rfl ?_
  refine Y_getR (pc := 22) hC sc_8 fl_Fo_22 rfl d_Fo_isSame_22 ?_
  refine Y_getR (pc := 25) hC sc_4 fl_Fo_101 rfl d_Fo_isSame_25 ?_
  refine Y_iload_n (pc := 28) hC d_Fo_isSame_28 rfl 3 rfl ?_
  obtain ⟨hi, h⟩ := ck_some h
  refine Y_iald (pc := 29) hC sc_28 rfl hi d_Fo_isSame_29 ?_
  refine Y_aload_n (pc := 30) hC d_Fo_isSame_30 rfl 2 rfl ?_
  refine Y_getR (pc := 31) hC sc_8 fl_Fo_22 rfl d_Fo_isSame_31 ?_
  refine Y_getR (pc := 34) hC sc_4 fl_Fo_101 rfl d_Fo_isSame_34 ?_
  refine Y_iload_n (pc := 37) hC d_Fo_isSame_37 rfl 4 rfl ?_
  obtain ⟨hi, h⟩ := ck_some h
  refine Y_iald (pc := 38) hC sc_28 rfl hi d_Fo_isSame_38 ?_
  refine Y_icmp_ne (pc := 39) hC 132 d_Fo_isSame_39 rfl (fun cc_39 => ?_) (fun cc_39 => ?_)
  · have h := ifn cc_39 h
    refine Y_iconst (pc := 132) hC d_Fo_isSame_132 ki_0 ?_
    exact Y_zret (pc := 133) hC hE d_Fo_isSame_133 rfl h
  · have h := ifp cc_39 h
    refine Y_aload_n (pc := 42) hC d_Fo_isSame_42 rfl 2 rfl ?_
    refine Y_getR (pc := 43) hC sc_8 fl_Fo_22 rfl d_Fo_isSame_43 ?_
    refine Y_getR (pc := 46) hC sc_4 fl_Fo_104 rfl d_Fo_isSame_46 ?_
    refine Y_iload_n (pc := 49) hC d_Fo_isSame_49 rfl 3 rfl ?_
    obtain ⟨hi, h⟩ := ck_some h
    refine Y_iald (pc := 50) hC sc_29 rfl hi d_Fo_isSame_50 ?_
    refine Y_aload_n (pc := 51) hC d_Fo_isSame_51 rfl 2 rfl ?_
    refine Y_getR (pc := 52) hC sc_8 fl_Fo_22 rfl d_Fo_isSame_52 ?_
    refine Y_getR (pc := 55) hC sc_4 fl_Fo_104 rfl d_Fo_isSame_55 ?_
    refine Y_iload_n (pc := 58) hC d_Fo_isSame_58 rfl 4 rfl ?_
    obtain ⟨hi, h⟩ := ck_some h
    refine Y_iald (pc := 59) hC sc_29 rfl hi d_Fo_isSame_59 ?_
    refine Y_icmp_ne (pc := 60) hC 132 d_Fo_isSame_60 rfl (fun cc_60 => ?_) (fun cc_60 => ?_)
    · have h := ifn cc_60 h
      refine Y_iconst (pc := 132) hC d_Fo_isSame_132 ki_0 ?_
      exact Y_zret (pc := 133) hC hE d_Fo_isSame_133 rfl h
    · have h := ifp cc_60 h
      refine Y_aload_n (pc := 63) hC d_Fo_isSame_63 rfl 2 rfl ?_
      refine Y_getR (pc := 64) hC sc_8 fl_Fo_22 rfl d_Fo_isSame_64 ?_
      refine Y_getR (pc := 67) hC sc_4 fl_Fo_107 rfl d_Fo_isSame_67 ?_
      refine Y_iload_n (pc := 70) hC d_Fo_isSame_70 rfl 3 rfl ?_
      obtain ⟨hi, h⟩ := ck_some h
      refine Y_iald (pc := 71) hC sc_31 rfl hi d_Fo_isSame_71 ?_
      refine Y_aload_n (pc := 72) hC d_Fo_isSame_72 rfl 2 rfl ?_
      refine Y_getR (pc := 73) hC sc_8 fl_Fo_22 rfl d_Fo_isSame_73 ?_
      refine Y_getR (pc := 76) hC sc_4 fl_Fo_107 rfl d_Fo_isSame_76 ?_
      refine Y_iload_n (pc := 79) hC d_Fo_isSame_79 rfl 4 rfl ?_
      obtain ⟨hi, h⟩ := ck_some h
      refine Y_iald (pc := 80) hC sc_31 rfl hi d_Fo_isSame_80 ?_
      refine Y_icmp_ne (pc := 81) hC 132 d_Fo_isSame_81 rfl (fun cc_81 => ?_) (fun cc_81 => ?_)
      · have h := ifn cc_81 h
        refine Y_iconst (pc := 132) hC d_Fo_isSame_132 ki_0 ?_
        exact Y_zret (pc := 133) hC hE d_Fo_isSame_133 rfl h
      · have h := ifp cc_81 h
        refine Y_aload_n (pc := 84) hC d_Fo_isSame_84 rfl 2 rfl ?_
        refine Y_getR (pc := 85) hC sc_8 fl_Fo_26 rfl d_Fo_isSame_85 ?_
        refine Y_getR (pc := 88) hC sc_6 fl_Fo_110 rfl d_Fo_isSame_88 ?_
        refine Y_iload_n (pc := 91) hC d_Fo_isSame_91 rfl 1 rfl ?_
        obtain ⟨hi, h⟩ := ck_some h
        refine Y_iald (pc := 92) hC sc_40 rfl hi d_Fo_isSame_92 ?_
        refine Y_aload_n (pc := 93) hC d_Fo_isSame_93 rfl 2 rfl ?_
        refine Y_getR (pc := 94) hC sc_8 fl_Fo_26 rfl d_Fo_isSame_94 ?_
        refine Y_getR (pc := 97) hC sc_6 fl_Fo_110 rfl d_Fo_isSame_97 ?_
        refine Y_iload (pc := 100) hC d_Fo_isSame_100 0 rfl ?_
        obtain ⟨hi, h⟩ := ck_some h
        refine Y_iald (pc := 102) hC sc_40 rfl hi d_Fo_isSame_102 ?_
        refine Y_icmp_ne (pc := 103) hC 132 d_Fo_isSame_103 rfl (fun cc_103 => ?_) (fun cc_103 => ?_)
        · have h := ifn cc_103 h
          refine Y_iconst (pc := 132) hC d_Fo_isSame_132 ki_0 ?_
          exact Y_zret (pc := 133) hC hE d_Fo_isSame_133 rfl h
        · have h := ifp cc_103 h
          refine Y_aload_n (pc := 106) hC d_Fo_isSame_106 rfl 2 rfl ?_
          refine Y_getR (pc := 107) hC sc_8 fl_Fo_26 rfl d_Fo_isSame_107 ?_
          refine Y_getR (pc := 110) hC sc_6 fl_Fo_115 rfl d_Fo_isSame_110 ?_
          refine Y_iload_n (pc := 113) hC d_Fo_isSame_113 rfl 1 rfl ?_
          obtain ⟨hi, h⟩ := ck_some h
          refine Y_iald (pc := 114) hC sc_42 rfl hi d_Fo_isSame_114 ?_
          refine Y_aload_n (pc := 115) hC d_Fo_isSame_115 rfl 2 rfl ?_
          refine Y_getR (pc := 116) hC sc_8 fl_Fo_26 rfl d_Fo_isSame_116 ?_
          refine Y_getR (pc := 119) hC sc_6 fl_Fo_115 rfl d_Fo_isSame_119 ?_
          refine Y_iload (pc := 122) hC d_Fo_isSame_122 0 rfl ?_
          obtain ⟨hi, h⟩ := ck_some h
          refine Y_iald (pc := 124) hC sc_42 rfl hi d_Fo_isSame_124 ?_
          refine Y_icmp_ne (pc := 125) hC 132 d_Fo_isSame_125 rfl (fun cc_125 => ?_) (fun cc_125 => ?_)
          · have h := ifn cc_125 h
            refine Y_iconst (pc := 132) hC d_Fo_isSame_132 ki_0 ?_
            exact Y_zret (pc := 133) hC hE d_Fo_isSame_133 rfl h
          · have h := ifp cc_125 h
            refine Y_iconst (pc := 128) hC d_Fo_isSame_128 ki_1 ?_
            refine Y_goto (pc := 129) hC 133 d_Fo_isSame_129 rfl ?_
            exact Y_zret (pc := 133) hC hE d_Fo_isSame_133 rfl h
set_option maxHeartbeats 4000000 in
set_option maxRecDepth 100000 in
theorem ylp_Fo_hasSameRelocations_23 {C : YC} {r : Int32} {V' : Sto} {x1 : Int32} {x2 : Int32} {k60 : Sto → RT} {k68 : Sto → RT} (hC : YF C R_Fo b_Fo_hasSameRelocations 4 rm_Fo_hasSameRelocations) (hE : YEi C .boolean shpC r V') (hk60 : ∀ (V1 : Sto), k60 V1 = some (r, V') → Y C shpC 4 60 [] [] V1) (hk68 : ∀ (V1 : Sto), k68 V1 = some (r, V') → Y C shpC 4 68 [] [] V1) : ∀ (n : Nat) (x3 : Int32) (V : Sto), lp_Fo_hasSameRelocations_23 x1 x2 k60 k68 n x3 V = some (r, V') → Y C shpC 4 23 [(0, .ref (C.a 8)), (1, .int x1), (2, .int x2), (3, .int x3)] [] V := by
  intro n
  induction n with
  | zero =>
    intro x3 V h
    rw [lp_Fo_hasSameRelocations_23] at h
    cases h
  | succ n ih =>
    intro x3 V h
    rw [lp_Fo_hasSameRelocations_23] at h
    refine Y_iload_n (pc := 23) hC d_Fo_hasSameRelocations_23 rfl 3 rfl ?_
    refine Y_aload_n (pc := 24) hC d_Fo_hasSameRelocations_24 rfl 0 rfl ?_
    refine Y_getR (pc := 25) hC sc_8 fl_Fo_22 rfl d_Fo_hasSameRelocations_25 ?_
    refine Y_iload_n (pc := 28) hC d_Fo_hasSameRelocations_28 rfl 1 rfl ?_
    obtain ⟨r3, V3, hc_r3, h⟩ := cl_some h
    refine Y_callV (pc := 29) hC (c_Re_countOf C.l C.D C.cI C.cZ C.a hc_r3) (fun q => nomatch q) sc_4 cls_Re ml_Fo_87 mv_Re_countOf (by decide) (Nat.le_of_ble_eq_true rfl) rfl d_Fo_hasSameRelocations_29 ?_
    refine Y_icmp_ge (pc := 32) hC 68 d_Fo_hasSameRelocations_32 rfl (fun cc_32 => ?_) (fun cc_32 => ?_)
    · have h := ifp cc_32 h
      refine Y_sub (pc := 68) [] rfl ?_
      exact hk68 _ h
    · have h := ifn cc_32 h
      refine Y_aload_n (pc := 35) hC d_Fo_hasSameRelocations_35 rfl 0 rfl ?_
      refine Y_aload_n (pc := 36) hC d_Fo_hasSameRelocations_36 rfl 0 rfl ?_
      refine Y_getR (pc := 37) hC sc_8 fl_Fo_22 rfl d_Fo_hasSameRelocations_37 ?_
      refine Y_iload_n (pc := 40) hC d_Fo_hasSameRelocations_40 rfl 1 rfl ?_
      refine Y_iload_n (pc := 41) hC d_Fo_hasSameRelocations_41 rfl 3 rfl ?_
      obtain ⟨r4, V4, hc_r4, h⟩ := cl_some h
      refine Y_callV (pc := 42) hC (c_Re_pick C.l C.D C.cI C.cZ C.a hc_r4) (fun q => nomatch q) sc_4 cls_Re ml_Fo_92 mv_Re_pick (by decide) (Nat.le_of_ble_eq_true rfl) rfl d_Fo_hasSameRelocations_42 ?_
      refine Y_aload_n (pc := 45) hC d_Fo_hasSameRelocations_45 rfl 0 rfl ?_
      refine Y_getR (pc := 46) hC sc_8 fl_Fo_22 rfl d_Fo_hasSameRelocations_46 ?_
      refine Y_iload_n (pc := 49) hC d_Fo_hasSameRelocations_49 rfl 2 rfl ?_
      refine Y_iload_n (pc := 50) hC d_Fo_hasSameRelocations_50 rfl 3 rfl ?_
      obtain ⟨r5, V5, hc_r5, h⟩ := cl_some h
      refine Y_callV (pc := 51) hC (c_Re_pick C.l C.D C.cI C.cZ C.a hc_r5) (fun q => nomatch q) sc_4 cls_Re ml_Fo_92 mv_Re_pick (by decide) (Nat.le_of_ble_eq_true rfl) rfl d_Fo_hasSameRelocations_51 ?_
      obtain ⟨r6, V6, hc_r6, h⟩ := cl_some h
      refine Y_callV (pc := 54) hC (c_Fo_isSame C.l C.D C.cI C.cZ C.a hc_r6) (fun q => nomatch q) sc_8 cls_Fo ml_Fo_95 mv_Fo_isSame (by decide) (Nat.le_of_ble_eq_true rfl) rfl d_Fo_hasSameRelocations_54 ?_
      refine Y_if_ne (pc := 57) hC 62 d_Fo_hasSameRelocations_57 rfl (fun cc_57 => ?_) (fun cc_57 => ?_)
      · have h := ifn cc_57 h
        refine Y_iinc (pc := 62) hC (v := x3 + 1) (L' := [(3, .int (x3 + 1)), (0, .ref (C.a 8)), (1, .int x1), (2, .int x2)]) d_Fo_hasSameRelocations_62 3 rfl rfl (by decide) rfl ?_
        refine Y_goto (pc := 65) hC 23 d_Fo_hasSameRelocations_65 rfl ?_
        refine Y_sub (pc := 23) [1, 2, 3, 0] rfl ?_
        exact ih _ _ h
      · have h := ifp cc_57 h
        refine Y_sub (pc := 60) [] rfl ?_
        exact hk60 _ h
set_option maxHeartbeats 4000000 in
set_option maxRecDepth 100000 in
theorem c_Fo_hasSameRelocations (l : Launch) (D : va_G) (cI cZ : ClassId) (a : Nat → Nat) {V : Sto} {p1 : Int32} {p2 : Int32} {r : Int32} {V' : Sto} (h : f_Fo_hasSameRelocations V p1 p2 = some (r, V')) : YMi l D cI cZ a shpC y_Fo_hasSameRelocations b_Fo_hasSameRelocations 4 (some .boolean) rm_Fo_hasSameRelocations false [.ref (a 8), .int p1, .int p2] V r V' := by
  refine YMi_of (by decide) (Nat.le_of_ble_eq_true rfl) ?_
  intro C hl hDD hcI hcZ ha hC hw hE
  subst hl hDD hcI hcZ ha
  show Y C shpC 4 0 [(0, .ref (C.a 8)), (1, .int p1), (2, .int p2)] [] V
  rw [f_Fo_hasSameRelocations] at h
  refine Y_aload_n (pc := 0) hC d_Fo_hasSameRelocations_0 rfl 0 rfl ?_
  refine Y_getR (pc := 1) hC sc_8 fl_Fo_22 rfl d_Fo_hasSameRelocations_1 ?_
  refine Y_iload_n (pc := 4) hC d_Fo_hasSameRelocations_4 rfl 1 rfl ?_
  obtain ⟨r1, V1, hc_r1, h⟩ := cl_some h
  refine Y_callV (pc := 5) hC (c_Re_countOf C.l C.D C.cI C.cZ C.a hc_r1) (fun q => nomatch q) sc_4 cls_Re ml_Fo_87 mv_Re_countOf (by decide) (Nat.le_of_ble_eq_true rfl) rfl d_Fo_hasSameRelocations_5 ?_
  refine Y_aload_n (pc := 8) hC d_Fo_hasSameRelocations_8 rfl 0 rfl ?_
  refine Y_getR (pc := 9) hC sc_8 fl_Fo_22 rfl d_Fo_hasSameRelocations_9 ?_
  refine Y_iload_n (pc := 12) hC d_Fo_hasSameRelocations_12 rfl 2 rfl ?_
  obtain ⟨r2, V2, hc_r2, h⟩ := cl_some h
  refine Y_callV (pc := 13) hC (c_Re_countOf C.l C.D C.cI C.cZ C.a hc_r2) (fun q => nomatch q) sc_4 cls_Re ml_Fo_87 mv_Re_countOf (by decide) (Nat.le_of_ble_eq_true rfl) rfl d_Fo_hasSameRelocations_13 ?_
  refine Y_icmp_eq (pc := 16) hC 21 d_Fo_hasSameRelocations_16 rfl (fun cc_16 => ?_) (fun cc_16 => ?_)
  · have h := ifp cc_16 h
    refine Y_iconst (pc := 21) hC d_Fo_hasSameRelocations_21 ki_0 ?_
    refine Y_istore_n (pc := 22) hC (L' := [(3, .int 0), (0, .ref (C.a 8)), (1, .int p1), (2, .int p2)]) d_Fo_hasSameRelocations_22 rfl (by decide) rfl ?_
    refine Y_sub (pc := 23) [1, 2, 3, 0] rfl ?_
    refine ylp_Fo_hasSameRelocations_23 hC hE (fun V7 h => ?_) (fun V8 h => ?_) FU _ _ h
    · have h := h
      refine Y_iconst (pc := 60) hC d_Fo_hasSameRelocations_60 ki_0 ?_
      exact Y_zret (pc := 61) hC hE d_Fo_hasSameRelocations_61 rfl h
    · have h := h
      refine Y_iconst (pc := 68) hC d_Fo_hasSameRelocations_68 ki_1 ?_
      exact Y_zret (pc := 69) hC hE d_Fo_hasSameRelocations_69 rfl h
  · have h := ifn cc_16 h
    refine Y_iconst (pc := 19) hC d_Fo_hasSameRelocations_19 ki_0 ?_
    exact Y_zret (pc := 20) hC hE d_Fo_hasSameRelocations_20 rfl h
set_option maxHeartbeats 4000000 in
set_option maxRecDepth 100000 in
theorem c_Se_read (l : Launch) (D : va_G) (cI cZ : ClassId) (a : Nat → Nat) {V : Sto} {p1 : Int32} {p2 : Int32} {r : Int32} {V' : Sto} (h : f_Se_read V p1 p2 = some (r, V')) : YMi l D cI cZ a shpC y_Se_read b_Se_read 3 (some .int) rm_Se_read false [.ref (a 2), .int p1, .int p2] V r V' := by
  refine YMi_of (by decide) (Nat.le_of_ble_eq_true rfl) ?_
  intro C hl hDD hcI hcZ ha hC hw hE
  subst hl hDD hcI hcZ ha
  show Y C shpC 3 0 [(0, .ref (C.a 2)), (1, .int p1), (2, .int p2)] [] V
  rw [f_Se_read] at h
  refine Y_aload_n (pc := 0) hC d_Se_read_0 rfl 0 rfl ?_
  refine Y_getR (pc := 1) hC sc_2 fl_Se_9 rfl d_Se_read_1 ?_
  refine Y_aload_n (pc := 4) hC d_Se_read_4 rfl 0 rfl ?_
  refine Y_getR (pc := 5) hC sc_2 fl_Se_27 rfl d_Se_read_5 ?_
  refine Y_iload_n (pc := 8) hC d_Se_read_8 rfl 1 rfl ?_
  obtain ⟨hi, h⟩ := ck_some h
  refine Y_iald (pc := 9) hC sc_19 rfl hi d_Se_read_9 ?_
  refine Y_iload_n (pc := 10) hC d_Se_read_10 rfl 2 rfl ?_
  refine Y_iconst (pc := 11) hC d_Se_read_11 ki_4 ?_
  refine Y_idiv (pc := 12) hC d_Se_read_12 (by decide) ?_
  refine Y_iadd (pc := 13) hC d_Se_read_13 ?_
  obtain ⟨hi, h⟩ := ck_some h
  refine Y_iald (pc := 14) hC sc_14 rfl hi d_Se_read_14 ?_
  exact Y_iret (pc := 15) hC hE d_Se_read_15 h
set_option maxHeartbeats 4000000 in
set_option maxRecDepth 100000 in
theorem ylp_Fo_hasSameWords_2 {C : YC} {r : Int32} {V' : Sto} {x1 : Int32} {x2 : Int32} {k36 : Sto → RT} {k44 : Sto → RT} (hC : YF C R_Fo b_Fo_hasSameWords 4 rm_Fo_hasSameWords) (hE : YEi C .boolean shpC r V') (hk36 : ∀ (V1 : Sto), k36 V1 = some (r, V') → Y C shpC 4 36 [] [] V1) (hk44 : ∀ (V1 : Sto), k44 V1 = some (r, V') → Y C shpC 4 44 [] [] V1) : ∀ (n : Nat) (x3 : Int32) (V : Sto), lp_Fo_hasSameWords_2 x1 x2 k36 k44 n x3 V = some (r, V') → Y C shpC 4 2 [(0, .ref (C.a 8)), (1, .int x1), (2, .int x2), (3, .int x3)] [] V := by
  intro n
  induction n with
  | zero =>
    intro x3 V h
    rw [lp_Fo_hasSameWords_2] at h
    cases h
  | succ n ih =>
    intro x3 V h
    rw [lp_Fo_hasSameWords_2] at h
    refine Y_iload_n (pc := 2) hC d_Fo_hasSameWords_2 rfl 3 rfl ?_
    refine Y_aload_n (pc := 3) hC d_Fo_hasSameWords_3 rfl 0 rfl ?_
    refine Y_getR (pc := 4) hC sc_8 fl_Fo_18 rfl d_Fo_hasSameWords_4 ?_
    refine Y_getR (pc := 7) hC sc_2 fl_Fo_71 rfl d_Fo_hasSameWords_7 ?_
    refine Y_iload_n (pc := 10) hC d_Fo_hasSameWords_10 rfl 1 rfl ?_
    obtain ⟨hi, h⟩ := ck_some h
    refine Y_iald (pc := 11) hC sc_17 rfl hi d_Fo_hasSameWords_11 ?_
    refine Y_icmp_ge (pc := 12) hC 44 d_Fo_hasSameWords_12 rfl (fun cc_12 => ?_) (fun cc_12 => ?_)
    · have h := ifp cc_12 h
      refine Y_sub (pc := 44) [] rfl ?_
      exact hk44 _ h
    · have h := ifn cc_12 h
      refine Y_aload_n (pc := 15) hC d_Fo_hasSameWords_15 rfl 0 rfl ?_
      refine Y_getR (pc := 16) hC sc_8 fl_Fo_18 rfl d_Fo_hasSameWords_16 ?_
      refine Y_iload_n (pc := 19) hC d_Fo_hasSameWords_19 rfl 1 rfl ?_
      refine Y_iload_n (pc := 20) hC d_Fo_hasSameWords_20 rfl 3 rfl ?_
      obtain ⟨r1, V1, hc_r1, h⟩ := cl_some h
      refine Y_callV (pc := 21) hC (c_Se_read C.l C.D C.cI C.cZ C.a hc_r1) (fun q => nomatch q) sc_2 cls_Se ml_Fo_83 mv_Se_read (by decide) (Nat.le_of_ble_eq_true rfl) rfl d_Fo_hasSameWords_21 ?_
      refine Y_aload_n (pc := 24) hC d_Fo_hasSameWords_24 rfl 0 rfl ?_
      refine Y_getR (pc := 25) hC sc_8 fl_Fo_18 rfl d_Fo_hasSameWords_25 ?_
      refine Y_iload_n (pc := 28) hC d_Fo_hasSameWords_28 rfl 2 rfl ?_
      refine Y_iload_n (pc := 29) hC d_Fo_hasSameWords_29 rfl 3 rfl ?_
      obtain ⟨r2, V2, hc_r2, h⟩ := cl_some h
      refine Y_callV (pc := 30) hC (c_Se_read C.l C.D C.cI C.cZ C.a hc_r2) (fun q => nomatch q) sc_2 cls_Se ml_Fo_83 mv_Se_read (by decide) (Nat.le_of_ble_eq_true rfl) rfl d_Fo_hasSameWords_30 ?_
      refine Y_icmp_eq (pc := 33) hC 38 d_Fo_hasSameWords_33 rfl (fun cc_33 => ?_) (fun cc_33 => ?_)
      · have h := ifp cc_33 h
        refine Y_iinc (pc := 38) hC (v := x3 + 4) (L' := [(3, .int (x3 + 4)), (0, .ref (C.a 8)), (1, .int x1), (2, .int x2)]) d_Fo_hasSameWords_38 3 rfl rfl (by decide) rfl ?_
        refine Y_goto (pc := 41) hC 2 d_Fo_hasSameWords_41 rfl ?_
        refine Y_sub (pc := 2) [1, 2, 3, 0] rfl ?_
        exact ih _ _ h
      · have h := ifn cc_33 h
        refine Y_sub (pc := 36) [] rfl ?_
        exact hk36 _ h
set_option maxHeartbeats 4000000 in
set_option maxRecDepth 100000 in
theorem c_Fo_hasSameWords (l : Launch) (D : va_G) (cI cZ : ClassId) (a : Nat → Nat) {V : Sto} {p1 : Int32} {p2 : Int32} {r : Int32} {V' : Sto} (h : f_Fo_hasSameWords V p1 p2 = some (r, V')) : YMi l D cI cZ a shpC y_Fo_hasSameWords b_Fo_hasSameWords 4 (some .boolean) rm_Fo_hasSameWords false [.ref (a 8), .int p1, .int p2] V r V' := by
  refine YMi_of (by decide) (Nat.le_of_ble_eq_true rfl) ?_
  intro C hl hDD hcI hcZ ha hC hw hE
  subst hl hDD hcI hcZ ha
  show Y C shpC 4 0 [(0, .ref (C.a 8)), (1, .int p1), (2, .int p2)] [] V
  rw [f_Fo_hasSameWords] at h
  refine Y_iconst (pc := 0) hC d_Fo_hasSameWords_0 ki_0 ?_
  refine Y_istore_n (pc := 1) hC (L' := [(3, .int 0), (0, .ref (C.a 8)), (1, .int p1), (2, .int p2)]) d_Fo_hasSameWords_1 rfl (by decide) rfl ?_
  refine Y_sub (pc := 2) [1, 2, 3, 0] rfl ?_
  refine ylp_Fo_hasSameWords_2 hC hE (fun V3 h => ?_) (fun V4 h => ?_) FU _ _ h
  · have h := h
    refine Y_iconst (pc := 36) hC d_Fo_hasSameWords_36 ki_0 ?_
    exact Y_zret (pc := 37) hC hE d_Fo_hasSameWords_37 rfl h
  · have h := h
    refine Y_iconst (pc := 44) hC d_Fo_hasSameWords_44 ki_1 ?_
    exact Y_zret (pc := 45) hC hE d_Fo_hasSameWords_45 rfl h
set_option maxHeartbeats 4000000 in
set_option maxRecDepth 100000 in
theorem c_Fo_looksSame (l : Launch) (D : va_G) (cI cZ : ClassId) (a : Nat → Nat) {V : Sto} {p1 : Int32} {p2 : Int32} {r : Int32} {V' : Sto} (h : f_Fo_looksSame V p1 p2 = some (r, V')) : YMi l D cI cZ a shpC y_Fo_looksSame b_Fo_looksSame 3 (some .boolean) rm_Fo_looksSame false [.ref (a 8), .int p1, .int p2] V r V' := by
  refine YMi_of (by decide) (Nat.le_of_ble_eq_true rfl) ?_
  intro C hl hDD hcI hcZ ha hC hw hE
  subst hl hDD hcI hcZ ha
  show Y C shpC 3 0 [(0, .ref (C.a 8)), (1, .int p1), (2, .int p2)] [] V
  rw [f_Fo_looksSame] at h
  refine Y_aload_n (pc := 0) hC d_Fo_looksSame_0 rfl 0 rfl ?_
  refine Y_getR (pc := 1) hC sc_8 fl_Fo_18 rfl d_Fo_looksSame_1 ?_
  refine Y_getR (pc := 4) hC sc_2 fl_Fo_71 rfl d_Fo_looksSame_4 ?_
  refine Y_iload_n (pc := 7) hC d_Fo_looksSame_7 rfl 1 rfl ?_
  obtain ⟨hi, h⟩ := ck_some h
  refine Y_iald (pc := 8) hC sc_17 rfl hi d_Fo_looksSame_8 ?_
  refine Y_aload_n (pc := 9) hC d_Fo_looksSame_9 rfl 0 rfl ?_
  refine Y_getR (pc := 10) hC sc_8 fl_Fo_18 rfl d_Fo_looksSame_10 ?_
  refine Y_getR (pc := 13) hC sc_2 fl_Fo_71 rfl d_Fo_looksSame_13 ?_
  refine Y_iload_n (pc := 16) hC d_Fo_looksSame_16 rfl 2 rfl ?_
  obtain ⟨hi, h⟩ := ck_some h
  refine Y_iald (pc := 17) hC sc_17 rfl hi d_Fo_looksSame_17 ?_
  refine Y_icmp_ne (pc := 18) hC 64 d_Fo_looksSame_18 rfl (fun cc_18 => ?_) (fun cc_18 => ?_)
  · have h := ifn cc_18 h
    refine Y_iconst (pc := 64) hC d_Fo_looksSame_64 ki_0 ?_
    exact Y_zret (pc := 65) hC hE d_Fo_looksSame_65 rfl h
  · have h := ifp cc_18 h
    refine Y_aload_n (pc := 21) hC d_Fo_looksSame_21 rfl 0 rfl ?_
    refine Y_getR (pc := 22) hC sc_8 fl_Fo_18 rfl d_Fo_looksSame_22 ?_
    refine Y_getR (pc := 25) hC sc_2 fl_Fo_74 rfl d_Fo_looksSame_25 ?_
    refine Y_iload_n (pc := 28) hC d_Fo_looksSame_28 rfl 1 rfl ?_
    obtain ⟨hi, h⟩ := ck_some h
    refine Y_iald (pc := 29) hC sc_18 rfl hi d_Fo_looksSame_29 ?_
    refine Y_aload_n (pc := 30) hC d_Fo_looksSame_30 rfl 0 rfl ?_
    refine Y_getR (pc := 31) hC sc_8 fl_Fo_18 rfl d_Fo_looksSame_31 ?_
    refine Y_getR (pc := 34) hC sc_2 fl_Fo_74 rfl d_Fo_looksSame_34 ?_
    refine Y_iload_n (pc := 37) hC d_Fo_looksSame_37 rfl 2 rfl ?_
    obtain ⟨hi, h⟩ := ck_some h
    refine Y_iald (pc := 38) hC sc_18 rfl hi d_Fo_looksSame_38 ?_
    refine Y_icmp_ne (pc := 39) hC 64 d_Fo_looksSame_39 rfl (fun cc_39 => ?_) (fun cc_39 => ?_)
    · have h := ifn cc_39 h
      refine Y_iconst (pc := 64) hC d_Fo_looksSame_64 ki_0 ?_
      exact Y_zret (pc := 65) hC hE d_Fo_looksSame_65 rfl h
    · have h := ifp cc_39 h
      refine Y_aload_n (pc := 42) hC d_Fo_looksSame_42 rfl 0 rfl ?_
      refine Y_iload_n (pc := 43) hC d_Fo_looksSame_43 rfl 1 rfl ?_
      refine Y_iload_n (pc := 44) hC d_Fo_looksSame_44 rfl 2 rfl ?_
      obtain ⟨r1, V1, hc_r1, h⟩ := cl_some h
      refine Y_callV (pc := 45) hC (c_Fo_hasSameWords C.l C.D C.cI C.cZ C.a hc_r1) (fun q => nomatch q) sc_8 cls_Fo ml_Fo_77 mv_Fo_hasSameWords (by decide) (Nat.le_of_ble_eq_true rfl) rfl d_Fo_looksSame_45 ?_
      refine Y_if_eq (pc := 48) hC 64 d_Fo_looksSame_48 rfl (fun cc_48 => ?_) (fun cc_48 => ?_)
      · have h := ifp cc_48 h
        refine Y_iconst (pc := 64) hC d_Fo_looksSame_64 ki_0 ?_
        exact Y_zret (pc := 65) hC hE d_Fo_looksSame_65 rfl h
      · have h := ifn cc_48 h
        refine Y_aload_n (pc := 51) hC d_Fo_looksSame_51 rfl 0 rfl ?_
        refine Y_iload_n (pc := 52) hC d_Fo_looksSame_52 rfl 1 rfl ?_
        refine Y_iload_n (pc := 53) hC d_Fo_looksSame_53 rfl 2 rfl ?_
        obtain ⟨r2, V2, hc_r2, h⟩ := cl_some h
        refine Y_callV (pc := 54) hC (c_Fo_hasSameRelocations C.l C.D C.cI C.cZ C.a hc_r2) (fun q => nomatch q) sc_8 cls_Fo ml_Fo_80 mv_Fo_hasSameRelocations (by decide) (Nat.le_of_ble_eq_true rfl) rfl d_Fo_looksSame_54 ?_
        refine Y_if_eq (pc := 57) hC 64 d_Fo_looksSame_57 rfl (fun cc_57 => ?_) (fun cc_57 => ?_)
        · have h := ifp cc_57 h
          refine Y_iconst (pc := 64) hC d_Fo_looksSame_64 ki_0 ?_
          exact Y_zret (pc := 65) hC hE d_Fo_looksSame_65 rfl h
        · have h := ifn cc_57 h
          refine Y_iconst (pc := 60) hC d_Fo_looksSame_60 ki_1 ?_
          refine Y_goto (pc := 61) hC 65 d_Fo_looksSame_61 rfl ?_
          exact Y_zret (pc := 65) hC hE d_Fo_looksSame_65 rfl h
