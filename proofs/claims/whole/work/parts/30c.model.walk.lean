set_option maxHeartbeats 4000000 in
set_option maxRecDepth 100000 in
theorem c_Mo_thrown (l : Launch) (D : va_G) (cI cZ : ClassId) (a : Nat → Nat) {V : Sto} {r : Int32} {V' : Sto} (h : f_Mo_thrown V = some (r, V')) : YMi l D cI cZ a shpM y_Mo_thrown b_Mo_thrown 1 (some .int) rm_Mo_thrown false [.ref (a 0)] V r V' := by
  refine YMi_of (by decide) (Nat.le_of_ble_eq_true rfl) ?_
  intro C hl hDD hcI hcZ ha hC hw hE
  subst hl hDD hcI hcZ ha
  show Y C shpM 1 0 [(0, .ref (C.a 0))] [] V
  rw [f_Mo_thrown] at h
  refine Y_aload_n (pc := 0) hC d_Mo_thrown_0 rfl 0 rfl ?_
  refine Y_getI (pc := 1) hC sm_0 fl_Mo_115 rfl d_Mo_thrown_1 ?_
  exact Y_iret (pc := 4) hC hE d_Mo_thrown_4 h
set_option maxHeartbeats 4000000 in
set_option maxRecDepth 100000 in
theorem c_Mo_refuse (l : Launch) (D : va_G) (cI cZ : ClassId) (a : Nat → Nat) {V : Sto} {p1 : Int32} {p2 : Int32} {r : Int32} {V' : Sto} (h : f_Mo_refuse V p1 p2 = some (r, V')) : YMi l D cI cZ a shpM y_Mo_refuse b_Mo_refuse 3 (some .boolean) rm_Mo_refuse true [.ref (a 0), .int p1, .int p2] V r V' := by
  refine YMi_of (by decide) (Nat.le_of_ble_eq_true rfl) ?_
  intro C hl hDD hcI hcZ ha hC hw hE
  subst hl hDD hcI hcZ ha
  show Y C shpM 3 0 [(0, .ref (C.a 0)), (1, .int p1), (2, .int p2)] [] V
  have hw := hw rfl
  rw [f_Mo_refuse] at h
  refine Y_aload_n (pc := 0) hC d_Mo_refuse_0 rfl 0 rfl ?_
  refine Y_iload_n (pc := 1) hC d_Mo_refuse_1 rfl 1 rfl ?_
  refine Y_if_eq (pc := 2) hC 9 d_Mo_refuse_2 rfl (fun cc_2 => ?_) (fun cc_2 => ?_)
  · have h := ifp cc_2 h
    refine Y_iload_n (pc := 9) hC d_Mo_refuse_9 rfl 2 rfl ?_
    refine Y_if_eq (pc := 10) hC 17 d_Mo_refuse_10 rfl (fun cc_10 => ?_) (fun cc_10 => ?_)
    · have h := ifp cc_10 h
      refine Y_iconst (pc := 17) hC d_Mo_refuse_17 ki_0 ?_
      obtain ⟨V1, hV1, h⟩ := nm_some h
      refine Y_put (pc := 18) hC sm_0 fl_Mo_115 rfl (by decide) fp_Mo ft_Mo_0 rfl rfl hw hV1 d_Mo_refuse_18 ?_
      refine Y_aload_n (pc := 21) hC d_Mo_refuse_21 rfl 0 rfl ?_
      refine Y_getI (pc := 22) hC sm_0 fl_Mo_115 rfl d_Mo_refuse_22 ?_
      refine Y_if_le (pc := 25) hC 32 d_Mo_refuse_25 rfl (fun cc_25 => ?_) (fun cc_25 => ?_)
      · have h := ifp cc_25 h
        refine Y_iconst (pc := 32) hC d_Mo_refuse_32 ki_0 ?_
        exact Y_zret (pc := 33) hC hE d_Mo_refuse_33 rfl h
      · have h := ifn cc_25 h
        refine Y_iconst (pc := 28) hC d_Mo_refuse_28 ki_1 ?_
        refine Y_goto (pc := 29) hC 33 d_Mo_refuse_29 rfl ?_
        exact Y_zret (pc := 33) hC hE d_Mo_refuse_33 rfl h
    · have h := ifn cc_10 h
      refine Y_iconst (pc := 13) hC d_Mo_refuse_13 ki_2 ?_
      refine Y_goto (pc := 14) hC 18 d_Mo_refuse_14 rfl ?_
      obtain ⟨V2, hV2, h⟩ := nm_some h
      refine Y_put (pc := 18) hC sm_0 fl_Mo_115 rfl (by decide) fp_Mo ft_Mo_0 rfl rfl hw hV2 d_Mo_refuse_18 ?_
      refine Y_aload_n (pc := 21) hC d_Mo_refuse_21 rfl 0 rfl ?_
      refine Y_getI (pc := 22) hC sm_0 fl_Mo_115 rfl d_Mo_refuse_22 ?_
      refine Y_if_le (pc := 25) hC 32 d_Mo_refuse_25 rfl (fun cc_25 => ?_) (fun cc_25 => ?_)
      · have h := ifp cc_25 h
        refine Y_iconst (pc := 32) hC d_Mo_refuse_32 ki_0 ?_
        exact Y_zret (pc := 33) hC hE d_Mo_refuse_33 rfl h
      · have h := ifn cc_25 h
        refine Y_iconst (pc := 28) hC d_Mo_refuse_28 ki_1 ?_
        refine Y_goto (pc := 29) hC 33 d_Mo_refuse_29 rfl ?_
        exact Y_zret (pc := 33) hC hE d_Mo_refuse_33 rfl h
  · have h := ifn cc_2 h
    refine Y_iconst (pc := 5) hC d_Mo_refuse_5 ki_1 ?_
    refine Y_goto (pc := 6) hC 18 d_Mo_refuse_6 rfl ?_
    obtain ⟨V3, hV3, h⟩ := nm_some h
    refine Y_put (pc := 18) hC sm_0 fl_Mo_115 rfl (by decide) fp_Mo ft_Mo_0 rfl rfl hw hV3 d_Mo_refuse_18 ?_
    refine Y_aload_n (pc := 21) hC d_Mo_refuse_21 rfl 0 rfl ?_
    refine Y_getI (pc := 22) hC sm_0 fl_Mo_115 rfl d_Mo_refuse_22 ?_
    refine Y_if_le (pc := 25) hC 32 d_Mo_refuse_25 rfl (fun cc_25 => ?_) (fun cc_25 => ?_)
    · have h := ifp cc_25 h
      refine Y_iconst (pc := 32) hC d_Mo_refuse_32 ki_0 ?_
      exact Y_zret (pc := 33) hC hE d_Mo_refuse_33 rfl h
    · have h := ifn cc_25 h
      refine Y_iconst (pc := 28) hC d_Mo_refuse_28 ki_1 ?_
      refine Y_goto (pc := 29) hC 33 d_Mo_refuse_29 rfl ?_
      exact Y_zret (pc := 33) hC hE d_Mo_refuse_33 rfl h
set_option maxHeartbeats 4000000 in
set_option maxRecDepth 100000 in
theorem c_Mo_within (l : Launch) (D : va_G) (cI cZ : ClassId) (a : Nat → Nat) {V : Sto} {p0 : Int32} {p1 : Int32} {p2 : Int32} {r : Int32} {V' : Sto} (h : f_Mo_within V p0 p1 p2 = some (r, V')) : YMi l D cI cZ a shpM y_Mo_within b_Mo_within 3 (some .boolean) rm_Mo_within false [.int p0, .int p1, .int p2] V r V' := by
  refine YMi_of (by decide) (Nat.le_of_ble_eq_true rfl) ?_
  intro C hl hDD hcI hcZ ha hC hw hE
  subst hl hDD hcI hcZ ha
  show Y C shpM 3 0 [(0, .int p0), (1, .int p1), (2, .int p2)] [] V
  rw [f_Mo_within] at h
  refine Y_iload_n (pc := 0) hC d_Mo_within_0 rfl 0 rfl ?_
  refine Y_iload_n (pc := 1) hC d_Mo_within_1 rfl 1 rfl ?_
  refine Y_icmp_lt (pc := 2) hC 14 d_Mo_within_2 rfl (fun cc_2 => ?_) (fun cc_2 => ?_)
  · have h := ifp cc_2 h
    refine Y_iconst (pc := 14) hC d_Mo_within_14 ki_0 ?_
    exact Y_zret (pc := 15) hC hE d_Mo_within_15 rfl h
  · have h := ifn cc_2 h
    refine Y_iload_n (pc := 5) hC d_Mo_within_5 rfl 0 rfl ?_
    refine Y_iload_n (pc := 6) hC d_Mo_within_6 rfl 2 rfl ?_
    refine Y_icmp_gt (pc := 7) hC 14 d_Mo_within_7 rfl (fun cc_7 => ?_) (fun cc_7 => ?_)
    · have h := ifp cc_7 h
      refine Y_iconst (pc := 14) hC d_Mo_within_14 ki_0 ?_
      exact Y_zret (pc := 15) hC hE d_Mo_within_15 rfl h
    · have h := ifn cc_7 h
      refine Y_iconst (pc := 10) hC d_Mo_within_10 ki_1 ?_
      refine Y_goto (pc := 11) hC 15 d_Mo_within_11 rfl ?_
      exact Y_zret (pc := 15) hC hE d_Mo_within_15 rfl h
set_option maxHeartbeats 4000000 in
set_option maxRecDepth 100000 in
theorem c_Mo_told (l : Launch) (D : va_G) (cI cZ : ClassId) (a : Nat → Nat) {V : Sto} {r : Int32} {V' : Sto} (h : f_Mo_told V = some (r, V')) : YMv l D cI cZ a shpM y_Mo_told b_Mo_told 1 rm_Mo_told true [.ref (a 0)] V V' := by
  refine YMv_of (by decide) (Nat.le_of_ble_eq_true rfl) ?_
  intro C hl hDD hcI hcZ ha hC hw hE
  subst hl hDD hcI hcZ ha
  show Y C shpM 1 0 [(0, .ref (C.a 0))] [] V
  have hw := hw rfl
  rw [f_Mo_told] at h
  refine Y_aload_n (pc := 0) hC d_Mo_told_0 rfl 0 rfl ?_
  refine Y_iconst (pc := 1) hC d_Mo_told_1 ki_0 ?_
  obtain ⟨V1, hV1, h⟩ := nm_some h
  refine Y_put (pc := 2) hC sm_0 fl_Mo_118 rfl (by decide) fp_Mo ft_Mo_29 rfl rfl hw hV1 d_Mo_told_2 ?_
  refine Y_aload_n (pc := 5) hC d_Mo_told_5 rfl 0 rfl ?_
  refine Y_iconst (pc := 6) hC d_Mo_told_6 ki_0 ?_
  obtain ⟨V2, hV2, h⟩ := nm_some h
  refine Y_put (pc := 7) hC sm_0 fl_Mo_122 rfl (by decide) fp_Mo ft_Mo_30 rfl rfl hw hV2 d_Mo_told_7 ?_
  refine Y_aload_n (pc := 10) hC d_Mo_told_10 rfl 0 rfl ?_
  refine Y_iconst (pc := 11) hC d_Mo_told_11 ki_m1 ?_
  obtain ⟨V3, hV3, h⟩ := nm_some h
  refine Y_put (pc := 12) hC sm_0 fl_Mo_73 rfl (by decide) fp_Mo ft_Mo_31 rfl rfl hw hV3 d_Mo_told_12 ?_
  refine Y_aload_n (pc := 15) hC d_Mo_told_15 rfl 0 rfl ?_
  refine Y_iconst (pc := 16) hC d_Mo_told_16 ki_m1 ?_
  obtain ⟨V4, hV4, h⟩ := nm_some h
  refine Y_put (pc := 17) hC sm_0 fl_Mo_76 rfl (by decide) fp_Mo ft_Mo_32 rfl rfl hw hV4 d_Mo_told_17 ?_
  exact Y_vret (pc := 20) hC hE d_Mo_told_20 h
set_option maxHeartbeats 4000000 in
set_option maxRecDepth 100000 in
theorem c_Mo_unit (l : Launch) (D : va_G) (cI cZ : ClassId) (a : Nat → Nat) {V : Sto} {p1 : Int32} {r : Int32} {V' : Sto} (h : f_Mo_unit V p1 = some (r, V')) : YMi l D cI cZ a shpM y_Mo_unit b_Mo_unit 3 (some .int) rm_Mo_unit true [.ref (a 0), .int p1] V r V' := by
  refine YMi_of (by decide) (Nat.le_of_ble_eq_true rfl) ?_
  intro C hl hDD hcI hcZ ha hC hw hE
  subst hl hDD hcI hcZ ha
  show Y C shpM 3 0 [(0, .ref (C.a 0)), (1, .int p1)] [] V
  have hw := hw rfl
  rw [f_Mo_unit] at h
  refine Y_iload_n (pc := 0) hC d_Mo_unit_0 rfl 1 rfl ?_
  refine Y_iconst (pc := 1) hC d_Mo_unit_1 ki_m1 ?_
  refine Y_iconst (pc := 2) hC d_Mo_unit_2 ki_3 ?_
  obtain ⟨r1, V1, hc_r1, h⟩ := cl_some h
  refine Y_callS (pc := 3) hC (c_Mo_within C.l C.D C.cI C.cZ C.a hc_r1) (fun q => nomatch q) ml_Mo_125 ms_Mo_within (by decide) (Nat.le_of_ble_eq_true rfl) rfl d_Mo_unit_3 ?_
  refine Y_istore_n (pc := 6) hC (L' := [(2, .int r1), (0, .ref (C.a 0)), (1, .int p1)]) d_Mo_unit_6 rfl (by decide) rfl ?_
  refine Y_aload_n (pc := 7) hC d_Mo_unit_7 rfl 1 rfl ?_
  refine Y_iload_n (pc := 8) hC d_Mo_unit_8 rfl 0 rfl ?_
  obtain ⟨j1, hj1, h⟩ := jn_some h
  have kj1 : ∀ (z1 : Int32), j1 z1 = some (r, V') → Y C shpM 3 17 [(0, .ref (C.a 0)), (1, .int p1), (2, .int r1)] [.int z1, .ref (C.a 0)] V1 := by
    intro z1 h
    subst hj1
    dsimp only at h
    refine Y_iload_n (pc := 17) hC d_Mo_unit_17 rfl 2 rfl ?_
    obtain ⟨j2, hj2, h⟩ := jn_some h
    have kj2 : ∀ (z2 : Int32), j2 z2 = some (r, V') → Y C shpM 3 35 [(0, .ref (C.a 0)), (1, .int p1)] [.int z2, .int z1, .ref (C.a 0)] V1 := by
      intro z2 h
      subst hj2
      dsimp only at h
      obtain ⟨r2, V2, hc_r2, h⟩ := cl_some h
      refine Y_callV (pc := 35) hC (c_Mo_refuse C.l C.D C.cI C.cZ C.a hc_r2) (fun _ => hw) sm_0 cls_Mo ml_Mo_132 mv_Mo_refuse (by decide) (Nat.le_of_ble_eq_true rfl) rfl d_Mo_unit_35 ?_
      refine Y_if_eq (pc := 38) hC 43 d_Mo_unit_38 rfl (fun cc_38 => ?_) (fun cc_38 => ?_)
      · have h := ifp cc_38 h
        refine Y_aload_n (pc := 43) hC d_Mo_unit_43 rfl 0 rfl ?_
        obtain ⟨r3, V3, hc_r3, h⟩ := cl_some h
        refine Y_callVv (pc := 44) hC (c_Mo_told C.l C.D C.cI C.cZ C.a hc_r3) (fun _ => hw) sm_0 cls_Mo ml_Mo_136 mv_Mo_told (by decide) (Nat.le_of_ble_eq_true rfl) rfl d_Mo_unit_44 ?_
        refine Y_aload_n (pc := 47) hC d_Mo_unit_47 rfl 0 rfl ?_
        refine Y_getR (pc := 48) hC sm_0 fl_Mo_7 rfl d_Mo_unit_48 ?_
        refine Y_aload_n (pc := 51) hC d_Mo_unit_51 rfl 0 rfl ?_
        refine Y_getI (pc := 52) hC sm_0 fl_Mo_129 rfl d_Mo_unit_52 ?_
        refine Y_iload_n (pc := 55) hC d_Mo_unit_55 rfl 1 rfl ?_
        obtain ⟨hi, h⟩ := ck_some h
        obtain ⟨V4, hV4, h⟩ := nm_some h
        refine Y_iast (pc := 56) hC sm_1 (by decide) rfl hi hw rfl hV4 d_Mo_unit_56 ?_
        refine Y_aload_n (pc := 57) hC d_Mo_unit_57 rfl 0 rfl ?_
        refine Y_dup (pc := 58) hC d_Mo_unit_58 rfl ?_
        refine Y_getI (pc := 59) hC sm_0 fl_Mo_129 rfl d_Mo_unit_59 ?_
        refine Y_iconst (pc := 62) hC d_Mo_unit_62 ki_1 ?_
        refine Y_iadd (pc := 63) hC d_Mo_unit_63 ?_
        obtain ⟨V5, hV5, h⟩ := nm_some h
        refine Y_put (pc := 64) hC sm_0 fl_Mo_129 rfl (by decide) fp_Mo ft_Mo_1 rfl rfl hw hV5 d_Mo_unit_64 ?_
        refine Y_aload_n (pc := 67) hC d_Mo_unit_67 rfl 0 rfl ?_
        refine Y_getI (pc := 68) hC sm_0 fl_Mo_129 rfl d_Mo_unit_68 ?_
        refine Y_iconst (pc := 71) hC d_Mo_unit_71 ki_1 ?_
        refine Y_isub (pc := 72) hC d_Mo_unit_72 ?_
        exact Y_iret (pc := 73) hC hE d_Mo_unit_73 h
      · have h := ifn cc_38 h
        refine Y_iconst (pc := 41) hC d_Mo_unit_41 ki_0 ?_
        exact Y_iret (pc := 42) hC hE d_Mo_unit_42 h
    refine Y_if_eq (pc := 18) hC 34 d_Mo_unit_18 rfl (fun cc_18 => ?_) (fun cc_18 => ?_)
    · have h := ifp cc_18 h
      refine Y_iconst (pc := 34) hC d_Mo_unit_34 ki_0 ?_
      refine Y_sub (pc := 35) [0, 1] rfl ?_
      exact kj2 _ h
    · have h := ifn cc_18 h
      refine Y_aload_n (pc := 21) hC d_Mo_unit_21 rfl 0 rfl ?_
      refine Y_getI (pc := 22) hC sm_0 fl_Mo_129 rfl d_Mo_unit_22 ?_
      refine Y_bipush (pc := 25) hC d_Mo_unit_25 kb_24 ?_
      refine Y_icmp_ne (pc := 27) hC 34 d_Mo_unit_27 rfl (fun cc_27 => ?_) (fun cc_27 => ?_)
      · have h := ifn cc_27 h
        refine Y_iconst (pc := 34) hC d_Mo_unit_34 ki_0 ?_
        refine Y_sub (pc := 35) [0, 1] rfl ?_
        exact kj2 _ h
      · have h := ifp cc_27 h
        refine Y_iconst (pc := 30) hC d_Mo_unit_30 ki_1 ?_
        refine Y_goto (pc := 31) hC 35 d_Mo_unit_31 rfl ?_
        refine Y_sub (pc := 35) [0, 1] rfl ?_
        exact kj2 _ h
  refine Y_if_ne (pc := 9) hC 16 d_Mo_unit_9 rfl (fun cc_9 => ?_) (fun cc_9 => ?_)
  · have h := ifn cc_9 h
    refine Y_iconst (pc := 16) hC d_Mo_unit_16 ki_0 ?_
    refine Y_sub (pc := 17) [1, 2, 0] rfl ?_
    exact kj1 _ h
  · have h := ifp cc_9 h
    refine Y_iconst (pc := 12) hC d_Mo_unit_12 ki_1 ?_
    refine Y_goto (pc := 13) hC 17 d_Mo_unit_13 rfl ?_
    refine Y_sub (pc := 17) [1, 2, 0] rfl ?_
    exact kj1 _ h
set_option maxHeartbeats 4000000 in
set_option maxRecDepth 100000 in
theorem c_Mo_isAlignment (l : Launch) (D : va_G) (cI cZ : ClassId) (a : Nat → Nat) {V : Sto} {p0 : Int32} {r : Int32} {V' : Sto} (h : f_Mo_isAlignment V p0 = some (r, V')) : YMi l D cI cZ a shpM y_Mo_isAlignment b_Mo_isAlignment 1 (some .boolean) rm_Mo_isAlignment false [.int p0] V r V' := by
  refine YMi_of (by decide) (Nat.le_of_ble_eq_true rfl) ?_
  intro C hl hDD hcI hcZ ha hC hw hE
  subst hl hDD hcI hcZ ha
  show Y C shpM 1 0 [(0, .int p0)] [] V
  rw [f_Mo_isAlignment] at h
  refine Y_iload_n (pc := 0) hC d_Mo_isAlignment_0 rfl 0 rfl ?_
  refine Y_iconst (pc := 1) hC d_Mo_isAlignment_1 ki_4 ?_
  refine Y_sipush (pc := 2) hC d_Mo_isAlignment_2 ks_4096 ?_
  obtain ⟨r1, V1, hc_r1, h⟩ := cl_some h
  refine Y_callS (pc := 5) hC (c_Mo_within C.l C.D C.cI C.cZ C.a hc_r1) (fun q => nomatch q) ml_Mo_125 ms_Mo_within (by decide) (Nat.le_of_ble_eq_true rfl) rfl d_Mo_isAlignment_5 ?_
  refine Y_if_eq (pc := 8) hC 23 d_Mo_isAlignment_8 rfl (fun cc_8 => ?_) (fun cc_8 => ?_)
  · have h := ifp cc_8 h
    refine Y_iconst (pc := 23) hC d_Mo_isAlignment_23 ki_0 ?_
    exact Y_zret (pc := 24) hC hE d_Mo_isAlignment_24 rfl h
  · have h := ifn cc_8 h
    refine Y_iload_n (pc := 11) hC d_Mo_isAlignment_11 rfl 0 rfl ?_
    refine Y_iload_n (pc := 12) hC d_Mo_isAlignment_12 rfl 0 rfl ?_
    refine Y_iconst (pc := 13) hC d_Mo_isAlignment_13 ki_1 ?_
    refine Y_isub (pc := 14) hC d_Mo_isAlignment_14 ?_
    refine Y_iand (pc := 15) hC d_Mo_isAlignment_15 ?_
    refine Y_if_ne (pc := 16) hC 23 d_Mo_isAlignment_16 rfl (fun cc_16 => ?_) (fun cc_16 => ?_)
    · have h := ifn cc_16 h
      refine Y_iconst (pc := 23) hC d_Mo_isAlignment_23 ki_0 ?_
      exact Y_zret (pc := 24) hC hE d_Mo_isAlignment_24 rfl h
    · have h := ifp cc_16 h
      refine Y_iconst (pc := 19) hC d_Mo_isAlignment_19 ki_1 ?_
      refine Y_goto (pc := 20) hC 24 d_Mo_isAlignment_20 rfl ?_
      exact Y_zret (pc := 24) hC hE d_Mo_isAlignment_24 rfl h
set_option maxHeartbeats 4000000 in
set_option maxRecDepth 100000 in
theorem ylp_Mo_section_185 {C : YC} {r : Int32} {V' : Sto} {x2 : Int32} {x3 : Int32} {k224 : Sto → RT} (hC : YF C R_Mo b_Mo_section 7 rm_Mo_section) (hw : YWr C shpM) (hE : YEi C .int shpM r V') (hk224 : ∀ (V1 : Sto), k224 V1 = some (r, V') → Y C shpM 7 224 [(0, .ref (C.a 0))] [] V1) : ∀ (n : Nat) (x6 : Int32) (V : Sto), lp_Mo_section_185 x2 x3 k224 n x6 V = some (r, V') → Y C shpM 7 185 [(0, .ref (C.a 0)), (2, .int x2), (3, .int x3), (6, .int x6)] [] V := by
  intro n
  induction n with
  | zero =>
    intro x6 V h
    rw [lp_Mo_section_185] at h
    cases h
  | succ n ih =>
    intro x6 V h
    rw [lp_Mo_section_185] at h
    refine Y_iload_n (pc := 185) hC d_Mo_section_185 rfl 1 rfl ?_
    refine Y_iconst (pc := 186) hC d_Mo_section_186 ki_2 ?_
    refine Y_icmp_eq (pc := 187) hC 224 d_Mo_section_187 rfl (fun cc_187 => ?_) (fun cc_187 => ?_)
    · have h := ifp cc_187 h
      refine Y_sub (pc := 224) [0] rfl ?_
      exact hk224 _ h
    · have h := ifn cc_187 h
      refine Y_iload (pc := 190) hC d_Mo_section_190 3 rfl ?_
      refine Y_iload_n (pc := 192) hC d_Mo_section_192 rfl 2 rfl ?_
      refine Y_iconst (pc := 193) hC d_Mo_section_193 ki_4 ?_
      refine Y_idiv (pc := 194) hC d_Mo_section_194 (by decide) ?_
      refine Y_icmp_ge (pc := 195) hC 224 d_Mo_section_195 rfl (fun cc_195 => ?_) (fun cc_195 => ?_)
      · have h := ifp cc_195 h
        refine Y_sub (pc := 224) [0] rfl ?_
        exact hk224 _ h
      · have h := ifn cc_195 h
        refine Y_aload_n (pc := 198) hC d_Mo_section_198 rfl 0 rfl ?_
        refine Y_getR (pc := 199) hC sm_0 fl_Mo_33 rfl d_Mo_section_199 ?_
        refine Y_aload_n (pc := 202) hC d_Mo_section_202 rfl 0 rfl ?_
        refine Y_getI (pc := 203) hC sm_0 fl_Mo_150 rfl d_Mo_section_203 ?_
        refine Y_iconst (pc := 206) hC d_Mo_section_206 ki_0 ?_
        obtain ⟨hi, h⟩ := ck_some h
        obtain ⟨V15, hV15, h⟩ := nm_some h
        refine Y_iast (pc := 207) hC sm_8 (by decide) rfl hi hw rfl hV15 d_Mo_section_207 ?_
        refine Y_aload_n (pc := 208) hC d_Mo_section_208 rfl 0 rfl ?_
        refine Y_dup (pc := 209) hC d_Mo_section_209 rfl ?_
        refine Y_getI (pc := 210) hC sm_0 fl_Mo_150 rfl d_Mo_section_210 ?_
        refine Y_iconst (pc := 213) hC d_Mo_section_213 ki_1 ?_
        refine Y_iadd (pc := 214) hC d_Mo_section_214 ?_
        obtain ⟨V16, hV16, h⟩ := nm_some h
        refine Y_put (pc := 215) hC sm_0 fl_Mo_150 rfl (by decide) fp_Mo ft_Mo_11 rfl rfl hw hV16 d_Mo_section_215 ?_
        refine Y_iinc (pc := 218) hC (v := x6 + 1) (L' := [(6, .int (x6 + 1)), (0, .ref (C.a 0)), (2, .int x2), (3, .int x3)]) d_Mo_section_218 3 rfl rfl (by decide) rfl ?_
        refine Y_goto (pc := 221) hC 185 d_Mo_section_221 rfl ?_
        refine Y_sub (pc := 185) [1, 2, 3, 0] rfl ?_
        exact ih _ _ h
set_option maxHeartbeats 4000000 in
set_option maxRecDepth 100000 in
theorem c_Mo_section (l : Launch) (D : va_G) (cI cZ : ClassId) (a : Nat → Nat) {V : Sto} {p1 : Int32} {p2 : Int32} {p3 : Int32} {p4 : Int32} {r : Int32} {V' : Sto} (h : f_Mo_section V p1 p2 p3 p4 = some (r, V')) : YMi l D cI cZ a shpM y_Mo_section b_Mo_section 7 (some .int) rm_Mo_section true [.ref (a 0), .int p1, .int p2, .int p3, .int p4] V r V' := by
  refine YMi_of (by decide) (Nat.le_of_ble_eq_true rfl) ?_
  intro C hl hDD hcI hcZ ha hC hw hE
  subst hl hDD hcI hcZ ha
  show Y C shpM 7 0 [(0, .ref (C.a 0)), (1, .int p1), (2, .int p2), (3, .int p3), (4, .int p4)] [] V
  have hw := hw rfl
  rw [f_Mo_section] at h
  refine Y_iload_n (pc := 0) hC d_Mo_section_0 rfl 1 rfl ?_
  refine Y_iconst (pc := 1) hC d_Mo_section_1 ki_0 ?_
  refine Y_aload_n (pc := 2) hC d_Mo_section_2 rfl 0 rfl ?_
  refine Y_getI (pc := 3) hC sm_0 fl_Mo_129 rfl d_Mo_section_3 ?_
  refine Y_iconst (pc := 6) hC d_Mo_section_6 ki_1 ?_
  refine Y_isub (pc := 7) hC d_Mo_section_7 ?_
  obtain ⟨r1, V1, hc_r1, h⟩ := cl_some h
  refine Y_callS (pc := 8) hC (c_Mo_within C.l C.D C.cI C.cZ C.a hc_r1) (fun q => nomatch q) ml_Mo_125 ms_Mo_within (by decide) (Nat.le_of_ble_eq_true rfl) rfl d_Mo_section_8 ?_
  obtain ⟨j1, hj1, h⟩ := jn_some h
  have kj1 : ∀ (z1 : Int32) (V5 : Sto), j1 z1 V5 = some (r, V') → Y C shpM 7 53 [(0, .ref (C.a 0)), (1, .int p1), (2, .int p2), (3, .int p3), (4, .int p4)] [.int z1] V5 := by
    intro z1 V5 h
    subst hj1
    dsimp only at h
    refine Y_istore (pc := 53) hC (L' := [(5, .int z1), (0, .ref (C.a 0)), (1, .int p1), (2, .int p2), (3, .int p3), (4, .int p4)]) d_Mo_section_53 (by decide) rfl ?_
    refine Y_aload_n (pc := 55) hC d_Mo_section_55 rfl 1 rfl ?_
    refine Y_iload (pc := 56) hC d_Mo_section_56 0 rfl ?_
    obtain ⟨j2, hj2, h⟩ := jn_some h
    have kj2 : ∀ (z2 : Int32), j2 z2 = some (r, V') → Y C shpM 7 66 [(0, .ref (C.a 0)), (1, .int p1), (2, .int p2), (3, .int p3), (4, .int p4), (5, .int z1)] [.int z2, .ref (C.a 0)] V5 := by
      intro z2 h
      subst hj2
      dsimp only at h
      refine Y_iload (pc := 66) hC d_Mo_section_66 5 rfl ?_
      obtain ⟨j3, hj3, h⟩ := jn_some h
      have kj3 : ∀ (z3 : Int32), j3 z3 = some (r, V') → Y C shpM 7 96 [(0, .ref (C.a 0)), (1, .int p1), (2, .int p2), (3, .int p3), (4, .int p4)] [.int z3, .int z2, .ref (C.a 0)] V5 := by
        intro z3 h
        subst hj3
        dsimp only at h
        obtain ⟨r5, V6, hc_r5, h⟩ := cl_some h
        refine Y_callV (pc := 96) hC (c_Mo_refuse C.l C.D C.cI C.cZ C.a hc_r5) (fun _ => hw) sm_0 cls_Mo ml_Mo_132 mv_Mo_refuse (by decide) (Nat.le_of_ble_eq_true rfl) rfl d_Mo_section_96 ?_
        refine Y_if_eq (pc := 99) hC 104 d_Mo_section_99 rfl (fun cc_99 => ?_) (fun cc_99 => ?_)
        · have h := ifp cc_99 h
          refine Y_aload_n (pc := 104) hC d_Mo_section_104 rfl 0 rfl ?_
          obtain ⟨r6, V7, hc_r6, h⟩ := cl_some h
          refine Y_callVv (pc := 105) hC (c_Mo_told C.l C.D C.cI C.cZ C.a hc_r6) (fun _ => hw) sm_0 cls_Mo ml_Mo_136 mv_Mo_told (by decide) (Nat.le_of_ble_eq_true rfl) rfl d_Mo_section_105 ?_
          refine Y_aload_n (pc := 108) hC d_Mo_section_108 rfl 0 rfl ?_
          refine Y_getR (pc := 109) hC sm_0 fl_Mo_13 rfl d_Mo_section_109 ?_
          refine Y_aload_n (pc := 112) hC d_Mo_section_112 rfl 0 rfl ?_
          refine Y_getI (pc := 113) hC sm_0 fl_Mo_143 rfl d_Mo_section_113 ?_
          refine Y_iload_n (pc := 116) hC d_Mo_section_116 rfl 1 rfl ?_
          obtain ⟨hi, h⟩ := ck_some h
          obtain ⟨V8, hV8, h⟩ := nm_some h
          refine Y_iast (pc := 117) hC sm_2 (by decide) rfl hi hw rfl hV8 d_Mo_section_117 ?_
          refine Y_aload_n (pc := 118) hC d_Mo_section_118 rfl 0 rfl ?_
          refine Y_getR (pc := 119) hC sm_0 fl_Mo_16 rfl d_Mo_section_119 ?_
          refine Y_aload_n (pc := 122) hC d_Mo_section_122 rfl 0 rfl ?_
          refine Y_getI (pc := 123) hC sm_0 fl_Mo_143 rfl d_Mo_section_123 ?_
          refine Y_iload_n (pc := 126) hC d_Mo_section_126 rfl 2 rfl ?_
          obtain ⟨hi, h⟩ := ck_some h
          obtain ⟨V9, hV9, h⟩ := nm_some h
          refine Y_iast (pc := 127) hC sm_3 (by decide) rfl hi hw rfl hV9 d_Mo_section_127 ?_
          refine Y_aload_n (pc := 128) hC d_Mo_section_128 rfl 0 rfl ?_
          refine Y_getR (pc := 129) hC sm_0 fl_Mo_19 rfl d_Mo_section_129 ?_
          refine Y_aload_n (pc := 132) hC d_Mo_section_132 rfl 0 rfl ?_
          refine Y_getI (pc := 133) hC sm_0 fl_Mo_143 rfl d_Mo_section_133 ?_
          refine Y_iload_n (pc := 136) hC d_Mo_section_136 rfl 3 rfl ?_
          obtain ⟨hi, h⟩ := ck_some h
          obtain ⟨V10, hV10, h⟩ := nm_some h
          refine Y_iast (pc := 137) hC sm_4 (by decide) rfl hi hw rfl hV10 d_Mo_section_137 ?_
          refine Y_aload_n (pc := 138) hC d_Mo_section_138 rfl 0 rfl ?_
          refine Y_getR (pc := 139) hC sm_0 fl_Mo_22 rfl d_Mo_section_139 ?_
          refine Y_aload_n (pc := 142) hC d_Mo_section_142 rfl 0 rfl ?_
          refine Y_getI (pc := 143) hC sm_0 fl_Mo_143 rfl d_Mo_section_143 ?_
          refine Y_iload (pc := 146) hC d_Mo_section_146 4 rfl ?_
          obtain ⟨hi, h⟩ := ck_some h
          obtain ⟨V11, hV11, h⟩ := nm_some h
          refine Y_iast (pc := 148) hC sm_5 (by decide) rfl hi hw rfl hV11 d_Mo_section_148 ?_
          refine Y_aload_n (pc := 149) hC d_Mo_section_149 rfl 0 rfl ?_
          refine Y_getR (pc := 150) hC sm_0 fl_Mo_25 rfl d_Mo_section_150 ?_
          refine Y_aload_n (pc := 153) hC d_Mo_section_153 rfl 0 rfl ?_
          refine Y_getI (pc := 154) hC sm_0 fl_Mo_143 rfl d_Mo_section_154 ?_
          refine Y_aload_n (pc := 157) hC d_Mo_section_157 rfl 0 rfl ?_
          refine Y_getI (pc := 158) hC sm_0 fl_Mo_150 rfl d_Mo_section_158 ?_
          obtain ⟨hi, h⟩ := ck_some h
          obtain ⟨V12, hV12, h⟩ := nm_some h
          refine Y_iast (pc := 161) hC sm_6 (by decide) rfl hi hw rfl hV12 d_Mo_section_161 ?_
          refine Y_aload_n (pc := 162) hC d_Mo_section_162 rfl 0 rfl ?_
          refine Y_getR (pc := 163) hC sm_0 fl_Mo_28 rfl d_Mo_section_163 ?_
          refine Y_aload_n (pc := 166) hC d_Mo_section_166 rfl 0 rfl ?_
          refine Y_getI (pc := 167) hC sm_0 fl_Mo_143 rfl d_Mo_section_167 ?_
          refine Y_iconst (pc := 170) hC d_Mo_section_170 ki_0 ?_
          obtain ⟨hi, h⟩ := ck_some h
          obtain ⟨V13, hV13, h⟩ := nm_some h
          refine Y_zast (pc := 171) hC sm_7 (by decide) rfl hi hw rfl hV13 d_Mo_section_171 ?_
          refine Y_aload_n (pc := 172) hC d_Mo_section_172 rfl 0 rfl ?_
          refine Y_aload_n (pc := 173) hC d_Mo_section_173 rfl 0 rfl ?_
          refine Y_getI (pc := 174) hC sm_0 fl_Mo_146 rfl d_Mo_section_174 ?_
          refine Y_iload_n (pc := 177) hC d_Mo_section_177 rfl 3 rfl ?_
          refine Y_iadd (pc := 178) hC d_Mo_section_178 ?_
          obtain ⟨V14, hV14, h⟩ := nm_some h
          refine Y_put (pc := 179) hC sm_0 fl_Mo_146 rfl (by decide) fp_Mo ft_Mo_10 rfl rfl hw hV14 d_Mo_section_179 ?_
          refine Y_iconst (pc := 182) hC d_Mo_section_182 ki_0 ?_
          refine Y_istore (pc := 183) hC (L' := [(6, .int 0), (0, .ref (C.a 0)), (1, .int p1), (2, .int p2), (3, .int p3), (4, .int p4)]) d_Mo_section_183 (by decide) rfl ?_
          refine Y_sub (pc := 185) [1, 3, 4, 0] rfl ?_
          refine ylp_Mo_section_185 hC hw hE (fun V17 h => ?_) FU _ _ h
          refine Y_aload_n (pc := 224) hC d_Mo_section_224 rfl 0 rfl ?_
          refine Y_dup (pc := 225) hC d_Mo_section_225 rfl ?_
          refine Y_getI (pc := 226) hC sm_0 fl_Mo_143 rfl d_Mo_section_226 ?_
          refine Y_iconst (pc := 229) hC d_Mo_section_229 ki_1 ?_
          refine Y_iadd (pc := 230) hC d_Mo_section_230 ?_
          obtain ⟨V18, hV18, h⟩ := nm_some h
          refine Y_put (pc := 231) hC sm_0 fl_Mo_143 rfl (by decide) fp_Mo ft_Mo_3 rfl rfl hw hV18 d_Mo_section_231 ?_
          refine Y_aload_n (pc := 234) hC d_Mo_section_234 rfl 0 rfl ?_
          refine Y_getI (pc := 235) hC sm_0 fl_Mo_143 rfl d_Mo_section_235 ?_
          refine Y_iconst (pc := 238) hC d_Mo_section_238 ki_1 ?_
          refine Y_isub (pc := 239) hC d_Mo_section_239 ?_
          exact Y_iret (pc := 240) hC hE d_Mo_section_240 h
        · have h := ifn cc_99 h
          refine Y_iconst (pc := 102) hC d_Mo_section_102 ki_0 ?_
          exact Y_iret (pc := 103) hC hE d_Mo_section_103 h
      refine Y_if_eq (pc := 68) hC 95 d_Mo_section_68 rfl (fun cc_68 => ?_) (fun cc_68 => ?_)
      · have h := ifp cc_68 h
        refine Y_iconst (pc := 95) hC d_Mo_section_95 ki_0 ?_
        refine Y_sub (pc := 96) [0, 1, 2, 3, 4] rfl ?_
        exact kj3 _ h
      · have h := ifn cc_68 h
        refine Y_aload_n (pc := 71) hC d_Mo_section_71 rfl 0 rfl ?_
        refine Y_getI (pc := 72) hC sm_0 fl_Mo_143 rfl d_Mo_section_72 ?_
        refine Y_bipush (pc := 75) hC d_Mo_section_75 kb_96 ?_
        refine Y_icmp_eq (pc := 77) hC 91 d_Mo_section_77 rfl (fun cc_77 => ?_) (fun cc_77 => ?_)
        · have h := ifp cc_77 h
          refine Y_iconst (pc := 91) hC d_Mo_section_91 ki_1 ?_
          refine Y_goto (pc := 92) hC 96 d_Mo_section_92 rfl ?_
          refine Y_sub (pc := 96) [0, 1, 2, 3, 4] rfl ?_
          exact kj3 _ h
        · have h := ifn cc_77 h
          refine Y_aload_n (pc := 80) hC d_Mo_section_80 rfl 0 rfl ?_
          refine Y_getI (pc := 81) hC sm_0 fl_Mo_146 rfl d_Mo_section_81 ?_
          refine Y_iload_n (pc := 84) hC d_Mo_section_84 rfl 3 rfl ?_
          refine Y_iadd (pc := 85) hC d_Mo_section_85 ?_
          refine Y_ldc (pc := 86) hC kc_Mo_149 d_Mo_section_86 ?_
          refine Y_icmp_le (pc := 88) hC 95 d_Mo_section_88 rfl (fun cc_88 => ?_) (fun cc_88 => ?_)
          · have h := ifp cc_88 h
            refine Y_iconst (pc := 95) hC d_Mo_section_95 ki_0 ?_
            refine Y_sub (pc := 96) [0, 1, 2, 3, 4] rfl ?_
            exact kj3 _ h
          · have h := ifn cc_88 h
            refine Y_iconst (pc := 91) hC d_Mo_section_91 ki_1 ?_
            refine Y_goto (pc := 92) hC 96 d_Mo_section_92 rfl ?_
            refine Y_sub (pc := 96) [0, 1, 2, 3, 4] rfl ?_
            exact kj3 _ h
    refine Y_if_ne (pc := 58) hC 65 d_Mo_section_58 rfl (fun cc_58 => ?_) (fun cc_58 => ?_)
    · have h := ifn cc_58 h
      refine Y_iconst (pc := 65) hC d_Mo_section_65 ki_0 ?_
      refine Y_sub (pc := 66) [1, 2, 3, 4, 5, 0] rfl ?_
      exact kj2 _ h
    · have h := ifp cc_58 h
      refine Y_iconst (pc := 61) hC d_Mo_section_61 ki_1 ?_
      refine Y_goto (pc := 62) hC 66 d_Mo_section_62 rfl ?_
      refine Y_sub (pc := 66) [1, 2, 3, 4, 5, 0] rfl ?_
      exact kj2 _ h
  refine Y_if_eq (pc := 11) hC 52 d_Mo_section_11 rfl (fun cc_11 => ?_) (fun cc_11 => ?_)
  · have h := ifp cc_11 h
    refine Y_iconst (pc := 52) hC d_Mo_section_52 ki_0 ?_
    refine Y_sub (pc := 53) [0, 1, 2, 3, 4] rfl ?_
    exact kj1 _ _ h
  · have h := ifn cc_11 h
    refine Y_iload_n (pc := 14) hC d_Mo_section_14 rfl 2 rfl ?_
    refine Y_iconst (pc := 15) hC d_Mo_section_15 ki_0 ?_
    refine Y_iconst (pc := 16) hC d_Mo_section_16 ki_2 ?_
    obtain ⟨r2, V2, hc_r2, h⟩ := cl_some h
    refine Y_callS (pc := 17) hC (c_Mo_within C.l C.D C.cI C.cZ C.a hc_r2) (fun q => nomatch q) ml_Mo_125 ms_Mo_within (by decide) (Nat.le_of_ble_eq_true rfl) rfl d_Mo_section_17 ?_
    refine Y_if_eq (pc := 20) hC 52 d_Mo_section_20 rfl (fun cc_20 => ?_) (fun cc_20 => ?_)
    · have h := ifp cc_20 h
      refine Y_iconst (pc := 52) hC d_Mo_section_52 ki_0 ?_
      refine Y_sub (pc := 53) [0, 1, 2, 3, 4] rfl ?_
      exact kj1 _ _ h
    · have h := ifn cc_20 h
      refine Y_iload_n (pc := 23) hC d_Mo_section_23 rfl 3 rfl ?_
      refine Y_iconst (pc := 24) hC d_Mo_section_24 ki_0 ?_
      refine Y_sipush (pc := 25) hC d_Mo_section_25 ks_8192 ?_
      obtain ⟨r3, V3, hc_r3, h⟩ := cl_some h
      refine Y_callS (pc := 28) hC (c_Mo_within C.l C.D C.cI C.cZ C.a hc_r3) (fun q => nomatch q) ml_Mo_125 ms_Mo_within (by decide) (Nat.le_of_ble_eq_true rfl) rfl d_Mo_section_28 ?_
      refine Y_if_eq (pc := 31) hC 52 d_Mo_section_31 rfl (fun cc_31 => ?_) (fun cc_31 => ?_)
      · have h := ifp cc_31 h
        refine Y_iconst (pc := 52) hC d_Mo_section_52 ki_0 ?_
        refine Y_sub (pc := 53) [0, 1, 2, 3, 4] rfl ?_
        exact kj1 _ _ h
      · have h := ifn cc_31 h
        refine Y_iload_n (pc := 34) hC d_Mo_section_34 rfl 3 rfl ?_
        refine Y_iconst (pc := 35) hC d_Mo_section_35 ki_4 ?_
        refine Y_irem (pc := 36) hC d_Mo_section_36 (by decide) ?_
        refine Y_if_ne (pc := 37) hC 52 d_Mo_section_37 rfl (fun cc_37 => ?_) (fun cc_37 => ?_)
        · have h := ifn cc_37 h
          refine Y_iconst (pc := 52) hC d_Mo_section_52 ki_0 ?_
          refine Y_sub (pc := 53) [0, 1, 2, 3, 4] rfl ?_
          exact kj1 _ _ h
        · have h := ifp cc_37 h
          refine Y_iload (pc := 40) hC d_Mo_section_40 4 rfl ?_
          obtain ⟨r4, V4, hc_r4, h⟩ := cl_some h
          refine Y_callS (pc := 42) hC (c_Mo_isAlignment C.l C.D C.cI C.cZ C.a hc_r4) (fun q => nomatch q) ml_Mo_139 ms_Mo_isAlignment (by decide) (Nat.le_of_ble_eq_true rfl) rfl d_Mo_section_42 ?_
          refine Y_if_eq (pc := 45) hC 52 d_Mo_section_45 rfl (fun cc_45 => ?_) (fun cc_45 => ?_)
          · have h := ifp cc_45 h
            refine Y_iconst (pc := 52) hC d_Mo_section_52 ki_0 ?_
            refine Y_sub (pc := 53) [0, 1, 2, 3, 4] rfl ?_
            exact kj1 _ _ h
          · have h := ifn cc_45 h
            refine Y_iconst (pc := 48) hC d_Mo_section_48 ki_1 ?_
            refine Y_goto (pc := 49) hC 53 d_Mo_section_49 rfl ?_
            refine Y_sub (pc := 53) [0, 1, 2, 3, 4] rfl ?_
            exact kj1 _ _ h
set_option maxHeartbeats 4000000 in
set_option maxRecDepth 100000 in
theorem c_Mo_isPlace (l : Launch) (D : va_G) (cI cZ : ClassId) (a : Nat → Nat) {V : Sto} {p1 : Int32} {p2 : Int32} {r : Int32} {V' : Sto} (h : f_Mo_isPlace V p1 p2 = some (r, V')) : YMi l D cI cZ a shpM y_Mo_isPlace b_Mo_isPlace 3 (some .boolean) rm_Mo_isPlace false [.ref (a 0), .int p1, .int p2] V r V' := by
  refine YMi_of (by decide) (Nat.le_of_ble_eq_true rfl) ?_
  intro C hl hDD hcI hcZ ha hC hw hE
  subst hl hDD hcI hcZ ha
  show Y C shpM 3 0 [(0, .ref (C.a 0)), (1, .int p1), (2, .int p2)] [] V
  rw [f_Mo_isPlace] at h
  refine Y_iload_n (pc := 0) hC d_Mo_isPlace_0 rfl 1 rfl ?_
  refine Y_iconst (pc := 1) hC d_Mo_isPlace_1 ki_0 ?_
  refine Y_aload_n (pc := 2) hC d_Mo_isPlace_2 rfl 0 rfl ?_
  refine Y_getI (pc := 3) hC sm_0 fl_Mo_143 rfl d_Mo_isPlace_3 ?_
  refine Y_iconst (pc := 6) hC d_Mo_isPlace_6 ki_1 ?_
  refine Y_isub (pc := 7) hC d_Mo_isPlace_7 ?_
  obtain ⟨r1, V1, hc_r1, h⟩ := cl_some h
  refine Y_callS (pc := 8) hC (c_Mo_within C.l C.D C.cI C.cZ C.a hc_r1) (fun q => nomatch q) ml_Mo_125 ms_Mo_within (by decide) (Nat.le_of_ble_eq_true rfl) rfl d_Mo_isPlace_8 ?_
  refine Y_if_eq (pc := 11) hC 48 d_Mo_isPlace_11 rfl (fun cc_11 => ?_) (fun cc_11 => ?_)
  · have h := ifp cc_11 h
    refine Y_iconst (pc := 48) hC d_Mo_isPlace_48 ki_0 ?_
    exact Y_zret (pc := 49) hC hE d_Mo_isPlace_49 rfl h
  · have h := ifn cc_11 h
    refine Y_aload_n (pc := 14) hC d_Mo_isPlace_14 rfl 0 rfl ?_
    refine Y_getR (pc := 15) hC sm_0 fl_Mo_16 rfl d_Mo_isPlace_15 ?_
    refine Y_iload_n (pc := 18) hC d_Mo_isPlace_18 rfl 1 rfl ?_
    obtain ⟨hi, h⟩ := ck_some h
    refine Y_iald (pc := 19) hC sm_3 rfl hi d_Mo_isPlace_19 ?_
    refine Y_iconst (pc := 20) hC d_Mo_isPlace_20 ki_2 ?_
    refine Y_icmp_eq (pc := 21) hC 48 d_Mo_isPlace_21 rfl (fun cc_21 => ?_) (fun cc_21 => ?_)
    · have h := ifp cc_21 h
      refine Y_iconst (pc := 48) hC d_Mo_isPlace_48 ki_0 ?_
      exact Y_zret (pc := 49) hC hE d_Mo_isPlace_49 rfl h
    · have h := ifn cc_21 h
      refine Y_iload_n (pc := 24) hC d_Mo_isPlace_24 rfl 2 rfl ?_
      refine Y_if_lt (pc := 25) hC 48 d_Mo_isPlace_25 rfl (fun cc_25 => ?_) (fun cc_25 => ?_)
      · have h := ifp cc_25 h
        refine Y_iconst (pc := 48) hC d_Mo_isPlace_48 ki_0 ?_
        exact Y_zret (pc := 49) hC hE d_Mo_isPlace_49 rfl h
      · have h := ifn cc_25 h
        refine Y_iload_n (pc := 28) hC d_Mo_isPlace_28 rfl 2 rfl ?_
        refine Y_aload_n (pc := 29) hC d_Mo_isPlace_29 rfl 0 rfl ?_
        refine Y_getR (pc := 30) hC sm_0 fl_Mo_19 rfl d_Mo_isPlace_30 ?_
        refine Y_iload_n (pc := 33) hC d_Mo_isPlace_33 rfl 1 rfl ?_
        obtain ⟨hi, h⟩ := ck_some h
        refine Y_iald (pc := 34) hC sm_4 rfl hi d_Mo_isPlace_34 ?_
        refine Y_icmp_ge (pc := 35) hC 48 d_Mo_isPlace_35 rfl (fun cc_35 => ?_) (fun cc_35 => ?_)
        · have h := ifp cc_35 h
          refine Y_iconst (pc := 48) hC d_Mo_isPlace_48 ki_0 ?_
          exact Y_zret (pc := 49) hC hE d_Mo_isPlace_49 rfl h
        · have h := ifn cc_35 h
          refine Y_iload_n (pc := 38) hC d_Mo_isPlace_38 rfl 2 rfl ?_
          refine Y_iconst (pc := 39) hC d_Mo_isPlace_39 ki_4 ?_
          refine Y_irem (pc := 40) hC d_Mo_isPlace_40 (by decide) ?_
          refine Y_if_ne (pc := 41) hC 48 d_Mo_isPlace_41 rfl (fun cc_41 => ?_) (fun cc_41 => ?_)
          · have h := ifn cc_41 h
            refine Y_iconst (pc := 48) hC d_Mo_isPlace_48 ki_0 ?_
            exact Y_zret (pc := 49) hC hE d_Mo_isPlace_49 rfl h
          · have h := ifp cc_41 h
            refine Y_iconst (pc := 44) hC d_Mo_isPlace_44 ki_1 ?_
            refine Y_goto (pc := 45) hC 49 d_Mo_isPlace_45 rfl ?_
            exact Y_zret (pc := 49) hC hE d_Mo_isPlace_49 rfl h
set_option maxHeartbeats 4000000 in
set_option maxRecDepth 100000 in
theorem c_Mo_word (l : Launch) (D : va_G) (cI cZ : ClassId) (a : Nat → Nat) {V : Sto} {p1 : Int32} {p2 : Int32} {p3 : Int32} {r : Int32} {V' : Sto} (h : f_Mo_word V p1 p2 p3 = some (r, V')) : YMv l D cI cZ a shpM y_Mo_word b_Mo_word 4 rm_Mo_word true [.ref (a 0), .int p1, .int p2, .int p3] V V' := by
  refine YMv_of (by decide) (Nat.le_of_ble_eq_true rfl) ?_
  intro C hl hDD hcI hcZ ha hC hw hE
  subst hl hDD hcI hcZ ha
  show Y C shpM 4 0 [(0, .ref (C.a 0)), (1, .int p1), (2, .int p2), (3, .int p3)] [] V
  have hw := hw rfl
  rw [f_Mo_word] at h
  refine Y_aload_n (pc := 0) hC d_Mo_word_0 rfl 0 rfl ?_
  refine Y_aload_n (pc := 1) hC d_Mo_word_1 rfl 0 rfl ?_
  refine Y_iload_n (pc := 2) hC d_Mo_word_2 rfl 1 rfl ?_
  refine Y_iload_n (pc := 3) hC d_Mo_word_3 rfl 2 rfl ?_
  obtain ⟨r1, V1, hc_r1, h⟩ := cl_some h
  refine Y_callV (pc := 4) hC (c_Mo_isPlace C.l C.D C.cI C.cZ C.a hc_r1) (fun q => nomatch q) sm_0 cls_Mo ml_Mo_153 mv_Mo_isPlace (by decide) (Nat.le_of_ble_eq_true rfl) rfl d_Mo_word_4 ?_
  obtain ⟨j1, hj1, h⟩ := jn_some h
  have kj1 : ∀ (z1 : Int32), j1 z1 = some (r, V') → Y C shpM 4 15 [(0, .ref (C.a 0)), (1, .int p1), (2, .int p2), (3, .int p3)] [.int z1, .ref (C.a 0)] V1 := by
    intro z1 h
    subst hj1
    dsimp only at h
    refine Y_iconst (pc := 15) hC d_Mo_word_15 ki_0 ?_
    obtain ⟨r2, V2, hc_r2, h⟩ := cl_some h
    refine Y_callV (pc := 16) hC (c_Mo_refuse C.l C.D C.cI C.cZ C.a hc_r2) (fun _ => hw) sm_0 cls_Mo ml_Mo_132 mv_Mo_refuse (by decide) (Nat.le_of_ble_eq_true rfl) rfl d_Mo_word_16 ?_
    refine Y_if_eq (pc := 19) hC 23 d_Mo_word_19 rfl (fun cc_19 => ?_) (fun cc_19 => ?_)
    · have h := ifp cc_19 h
      refine Y_aload_n (pc := 23) hC d_Mo_word_23 rfl 0 rfl ?_
      obtain ⟨r3, V3, hc_r3, h⟩ := cl_some h
      refine Y_callVv (pc := 24) hC (c_Mo_told C.l C.D C.cI C.cZ C.a hc_r3) (fun _ => hw) sm_0 cls_Mo ml_Mo_136 mv_Mo_told (by decide) (Nat.le_of_ble_eq_true rfl) rfl d_Mo_word_24 ?_
      refine Y_aload_n (pc := 27) hC d_Mo_word_27 rfl 0 rfl ?_
      refine Y_getR (pc := 28) hC sm_0 fl_Mo_33 rfl d_Mo_word_28 ?_
      refine Y_aload_n (pc := 31) hC d_Mo_word_31 rfl 0 rfl ?_
      refine Y_getR (pc := 32) hC sm_0 fl_Mo_25 rfl d_Mo_word_32 ?_
      refine Y_iload_n (pc := 35) hC d_Mo_word_35 rfl 1 rfl ?_
      obtain ⟨hi, h⟩ := ck_some h
      refine Y_iald (pc := 36) hC sm_6 rfl hi d_Mo_word_36 ?_
      refine Y_iload_n (pc := 37) hC d_Mo_word_37 rfl 2 rfl ?_
      refine Y_iconst (pc := 38) hC d_Mo_word_38 ki_4 ?_
      refine Y_idiv (pc := 39) hC d_Mo_word_39 (by decide) ?_
      refine Y_iadd (pc := 40) hC d_Mo_word_40 ?_
      refine Y_iload_n (pc := 41) hC d_Mo_word_41 rfl 3 rfl ?_
      obtain ⟨hi, h⟩ := ck_some h
      obtain ⟨V4, hV4, h⟩ := nm_some h
      refine Y_iast (pc := 42) hC sm_8 (by decide) rfl hi hw rfl hV4 d_Mo_word_42 ?_
      exact Y_vret (pc := 43) hC hE d_Mo_word_43 h
    · have h := ifn cc_19 h
      exact Y_vret (pc := 22) hC hE d_Mo_word_22 h
  refine Y_if_ne (pc := 7) hC 14 d_Mo_word_7 rfl (fun cc_7 => ?_) (fun cc_7 => ?_)
  · have h := ifn cc_7 h
    refine Y_iconst (pc := 14) hC d_Mo_word_14 ki_0 ?_
    refine Y_sub (pc := 15) [0, 1, 2, 3] rfl ?_
    exact kj1 _ h
  · have h := ifp cc_7 h
    refine Y_iconst (pc := 10) hC d_Mo_word_10 ki_1 ?_
    refine Y_goto (pc := 11) hC 15 d_Mo_word_11 rfl ?_
    refine Y_sub (pc := 15) [0, 1, 2, 3] rfl ?_
    exact kj1 _ h
set_option maxHeartbeats 4000000 in
set_option maxRecDepth 100000 in
theorem ylp_Mo_hasName_6 {C : YC} {r : Int32} {V' : Sto} {x1 : Int32} {x2 : Int32} {x3 : Int32} {k69 : Int32 → Sto → RT} (hC : YF C R_Mo b_Mo_hasName 6 rm_Mo_hasName) (hE : YEi C .boolean shpM r V') (hk69 : ∀ (y4 : Int32) (V1 : Sto), k69 y4 V1 = some (r, V') → Y C shpM 6 69 [(4, .int y4)] [] V1) : ∀ (n : Nat) (x4 x5 : Int32) (V : Sto), lp_Mo_hasName_6 x1 x2 x3 k69 n x4 x5 V = some (r, V') → Y C shpM 6 6 [(0, .ref (C.a 0)), (1, .int x1), (2, .int x2), (3, .int x3), (4, .int x4), (5, .int x5)] [] V := by
  intro n
  induction n with
  | zero =>
    intro x4 x5 V h
    rw [lp_Mo_hasName_6] at h
    cases h
  | succ n ih =>
    intro x4 x5 V h
    rw [lp_Mo_hasName_6] at h
    refine Y_iload (pc := 6) hC d_Mo_hasName_6 5 rfl ?_
    refine Y_aload_n (pc := 8) hC d_Mo_hasName_8 rfl 0 rfl ?_
    refine Y_getI (pc := 9) hC sm_0 fl_Mo_157 rfl d_Mo_hasName_9 ?_
    refine Y_icmp_ge (pc := 12) hC 69 d_Mo_hasName_12 rfl (fun cc_12 => ?_) (fun cc_12 => ?_)
    · have h := ifp cc_12 h
      refine Y_sub (pc := 69) [4] rfl ?_
      exact hk69 _ _ h
    · have h := ifn cc_12 h
      refine Y_iload (pc := 15) hC d_Mo_hasName_15 4 rfl ?_
      refine Y_if_ne (pc := 17) hC 56 d_Mo_hasName_17 rfl (fun cc_17 => ?_) (fun cc_17 => ?_)
      · have h := ifn cc_17 h
        refine Y_iconst (pc := 56) hC d_Mo_hasName_56 ki_1 ?_
        refine Y_goto (pc := 57) hC 61 d_Mo_hasName_57 rfl ?_
        refine Y_istore (pc := 61) hC (L' := [(4, .int 1), (0, .ref (C.a 0)), (1, .int x1), (2, .int x2), (3, .int x3), (5, .int x5)]) d_Mo_hasName_61 (by decide) rfl ?_
        refine Y_iinc (pc := 63) hC (v := x5 + 1) (L' := [(5, .int (x5 + 1)), (4, .int 1), (0, .ref (C.a 0)), (1, .int x1), (2, .int x2), (3, .int x3)]) d_Mo_hasName_63 5 rfl rfl (by decide) rfl ?_
        refine Y_goto (pc := 66) hC 6 d_Mo_hasName_66 rfl ?_
        refine Y_sub (pc := 6) [2, 3, 4, 5, 1, 0] rfl ?_
        exact ih _ _ _ h
      · have h := ifp cc_17 h
        refine Y_aload_n (pc := 20) hC d_Mo_hasName_20 rfl 0 rfl ?_
        refine Y_getR (pc := 21) hC sm_0 fl_Mo_36 rfl d_Mo_hasName_21 ?_
        refine Y_iload (pc := 24) hC d_Mo_hasName_24 5 rfl ?_
        obtain ⟨hi, h⟩ := ck_some h
        refine Y_iald (pc := 26) hC sm_9 rfl hi d_Mo_hasName_26 ?_
        refine Y_iload_n (pc := 27) hC d_Mo_hasName_27 rfl 1 rfl ?_
        refine Y_icmp_ne (pc := 28) hC 60 d_Mo_hasName_28 rfl (fun cc_28 => ?_) (fun cc_28 => ?_)
        · have h := ifn cc_28 h
          refine Y_iconst (pc := 60) hC d_Mo_hasName_60 ki_0 ?_
          refine Y_istore (pc := 61) hC (L' := [(4, .int 0), (0, .ref (C.a 0)), (1, .int x1), (2, .int x2), (3, .int x3), (5, .int x5)]) d_Mo_hasName_61 (by decide) rfl ?_
          refine Y_iinc (pc := 63) hC (v := x5 + 1) (L' := [(5, .int (x5 + 1)), (4, .int 0), (0, .ref (C.a 0)), (1, .int x1), (2, .int x2), (3, .int x3)]) d_Mo_hasName_63 5 rfl rfl (by decide) rfl ?_
          refine Y_goto (pc := 66) hC 6 d_Mo_hasName_66 rfl ?_
          refine Y_sub (pc := 6) [2, 3, 4, 5, 1, 0] rfl ?_
          exact ih _ _ _ h
        · have h := ifp cc_28 h
          refine Y_aload_n (pc := 31) hC d_Mo_hasName_31 rfl 0 rfl ?_
          refine Y_getR (pc := 32) hC sm_0 fl_Mo_48 rfl d_Mo_hasName_32 ?_
          refine Y_iload (pc := 35) hC d_Mo_hasName_35 5 rfl ?_
          obtain ⟨hi, h⟩ := ck_some h
          refine Y_iald (pc := 37) hC sm_13 rfl hi d_Mo_hasName_37 ?_
          refine Y_iload_n (pc := 38) hC d_Mo_hasName_38 rfl 2 rfl ?_
          refine Y_icmp_ne (pc := 39) hC 60 d_Mo_hasName_39 rfl (fun cc_39 => ?_) (fun cc_39 => ?_)
          · have h := ifn cc_39 h
            refine Y_iconst (pc := 60) hC d_Mo_hasName_60 ki_0 ?_
            refine Y_istore (pc := 61) hC (L' := [(4, .int 0), (0, .ref (C.a 0)), (1, .int x1), (2, .int x2), (3, .int x3), (5, .int x5)]) d_Mo_hasName_61 (by decide) rfl ?_
            refine Y_iinc (pc := 63) hC (v := x5 + 1) (L' := [(5, .int (x5 + 1)), (4, .int 0), (0, .ref (C.a 0)), (1, .int x1), (2, .int x2), (3, .int x3)]) d_Mo_hasName_63 5 rfl rfl (by decide) rfl ?_
            refine Y_goto (pc := 66) hC 6 d_Mo_hasName_66 rfl ?_
            refine Y_sub (pc := 6) [2, 3, 4, 5, 1, 0] rfl ?_
            exact ih _ _ _ h
          · have h := ifp cc_39 h
            refine Y_aload_n (pc := 42) hC d_Mo_hasName_42 rfl 0 rfl ?_
            refine Y_getR (pc := 43) hC sm_0 fl_Mo_51 rfl d_Mo_hasName_43 ?_
            refine Y_iload (pc := 46) hC d_Mo_hasName_46 5 rfl ?_
            obtain ⟨hi, h⟩ := ck_some h
            refine Y_iald (pc := 48) hC sm_14 rfl hi d_Mo_hasName_48 ?_
            refine Y_if_eq (pc := 49) hC 60 d_Mo_hasName_49 rfl (fun cc_49 => ?_) (fun cc_49 => ?_)
            · have h := ifp cc_49 h
              refine Y_iconst (pc := 60) hC d_Mo_hasName_60 ki_0 ?_
              refine Y_istore (pc := 61) hC (L' := [(4, .int 0), (0, .ref (C.a 0)), (1, .int x1), (2, .int x2), (3, .int x3), (5, .int x5)]) d_Mo_hasName_61 (by decide) rfl ?_
              refine Y_iinc (pc := 63) hC (v := x5 + 1) (L' := [(5, .int (x5 + 1)), (4, .int 0), (0, .ref (C.a 0)), (1, .int x1), (2, .int x2), (3, .int x3)]) d_Mo_hasName_63 5 rfl rfl (by decide) rfl ?_
              refine Y_goto (pc := 66) hC 6 d_Mo_hasName_66 rfl ?_
              refine Y_sub (pc := 6) [2, 3, 4, 5, 1, 0] rfl ?_
              exact ih _ _ _ h
            · have h := ifn cc_49 h
              refine Y_iload_n (pc := 52) hC d_Mo_hasName_52 rfl 3 rfl ?_
              refine Y_if_eq (pc := 53) hC 60 d_Mo_hasName_53 rfl (fun cc_53 => ?_) (fun cc_53 => ?_)
              · have h := ifp cc_53 h
                refine Y_iconst (pc := 60) hC d_Mo_hasName_60 ki_0 ?_
                refine Y_istore (pc := 61) hC (L' := [(4, .int 0), (0, .ref (C.a 0)), (1, .int x1), (2, .int x2), (3, .int x3), (5, .int x5)]) d_Mo_hasName_61 (by decide) rfl ?_
                refine Y_iinc (pc := 63) hC (v := x5 + 1) (L' := [(5, .int (x5 + 1)), (4, .int 0), (0, .ref (C.a 0)), (1, .int x1), (2, .int x2), (3, .int x3)]) d_Mo_hasName_63 5 rfl rfl (by decide) rfl ?_
                refine Y_goto (pc := 66) hC 6 d_Mo_hasName_66 rfl ?_
                refine Y_sub (pc := 6) [2, 3, 4, 5, 1, 0] rfl ?_
                exact ih _ _ _ h
              · have h := ifn cc_53 h
                refine Y_iconst (pc := 56) hC d_Mo_hasName_56 ki_1 ?_
                refine Y_goto (pc := 57) hC 61 d_Mo_hasName_57 rfl ?_
                refine Y_istore (pc := 61) hC (L' := [(4, .int 1), (0, .ref (C.a 0)), (1, .int x1), (2, .int x2), (3, .int x3), (5, .int x5)]) d_Mo_hasName_61 (by decide) rfl ?_
                refine Y_iinc (pc := 63) hC (v := x5 + 1) (L' := [(5, .int (x5 + 1)), (4, .int 1), (0, .ref (C.a 0)), (1, .int x1), (2, .int x2), (3, .int x3)]) d_Mo_hasName_63 5 rfl rfl (by decide) rfl ?_
                refine Y_goto (pc := 66) hC 6 d_Mo_hasName_66 rfl ?_
                refine Y_sub (pc := 6) [2, 3, 4, 5, 1, 0] rfl ?_
                exact ih _ _ _ h
set_option maxHeartbeats 4000000 in
set_option maxRecDepth 100000 in
theorem c_Mo_hasName (l : Launch) (D : va_G) (cI cZ : ClassId) (a : Nat → Nat) {V : Sto} {p1 : Int32} {p2 : Int32} {p3 : Int32} {r : Int32} {V' : Sto} (h : f_Mo_hasName V p1 p2 p3 = some (r, V')) : YMi l D cI cZ a shpM y_Mo_hasName b_Mo_hasName 6 (some .boolean) rm_Mo_hasName false [.ref (a 0), .int p1, .int p2, .int p3] V r V' := by
  refine YMi_of (by decide) (Nat.le_of_ble_eq_true rfl) ?_
  intro C hl hDD hcI hcZ ha hC hw hE
  subst hl hDD hcI hcZ ha
  show Y C shpM 6 0 [(0, .ref (C.a 0)), (1, .int p1), (2, .int p2), (3, .int p3)] [] V
  rw [f_Mo_hasName] at h
  refine Y_iconst (pc := 0) hC d_Mo_hasName_0 ki_0 ?_
  refine Y_istore (pc := 1) hC (L' := [(4, .int 0), (0, .ref (C.a 0)), (1, .int p1), (2, .int p2), (3, .int p3)]) d_Mo_hasName_1 (by decide) rfl ?_
  refine Y_iconst (pc := 3) hC d_Mo_hasName_3 ki_0 ?_
  refine Y_istore (pc := 4) hC (L' := [(5, .int 0), (4, .int 0), (0, .ref (C.a 0)), (1, .int p1), (2, .int p2), (3, .int p3)]) d_Mo_hasName_4 (by decide) rfl ?_
  refine Y_sub (pc := 6) [2, 3, 4, 5, 1, 0] rfl ?_
  refine ylp_Mo_hasName_6 hC hE (fun y1 V1 h => ?_) FU _ _ _ h
  refine Y_iload (pc := 69) hC d_Mo_hasName_69 0 rfl ?_
  obtain ⟨hbb, h⟩ := ck_some h
  exact Y_zret (pc := 71) hC hE d_Mo_hasName_71 hbb h
set_option maxHeartbeats 4000000 in
set_option maxRecDepth 100000 in
theorem c_Mo_newSymbol (l : Launch) (D : va_G) (cI cZ : ClassId) (a : Nat → Nat) {V : Sto} {p1 : Int32} {p2 : Int32} {p3 : Int32} {p4 : Int32} {p5 : Int32} {p6 : Int32} {r : Int32} {V' : Sto} (h : f_Mo_newSymbol V p1 p2 p3 p4 p5 p6 = some (r, V')) : YMi l D cI cZ a shpM y_Mo_newSymbol b_Mo_newSymbol 7 (some .int) rm_Mo_newSymbol true [.ref (a 0), .int p1, .int p2, .int p3, .int p4, .int p5, .int p6] V r V' := by
  refine YMi_of (by decide) (Nat.le_of_ble_eq_true rfl) ?_
  intro C hl hDD hcI hcZ ha hC hw hE
  subst hl hDD hcI hcZ ha
  show Y C shpM 7 0 [(0, .ref (C.a 0)), (1, .int p1), (2, .int p2), (3, .int p3), (4, .int p4), (5, .int p5), (6, .int p6)] [] V
  have hw := hw rfl
  rw [f_Mo_newSymbol] at h
  refine Y_aload_n (pc := 0) hC d_Mo_newSymbol_0 rfl 0 rfl ?_
  obtain ⟨r1, V1, hc_r1, h⟩ := cl_some h
  refine Y_callVv (pc := 1) hC (c_Mo_told C.l C.D C.cI C.cZ C.a hc_r1) (fun _ => hw) sm_0 cls_Mo ml_Mo_136 mv_Mo_told (by decide) (Nat.le_of_ble_eq_true rfl) rfl d_Mo_newSymbol_1 ?_
  refine Y_aload_n (pc := 4) hC d_Mo_newSymbol_4 rfl 0 rfl ?_
  refine Y_getR (pc := 5) hC sm_0 fl_Mo_36 rfl d_Mo_newSymbol_5 ?_
  refine Y_aload_n (pc := 8) hC d_Mo_newSymbol_8 rfl 0 rfl ?_
  refine Y_getI (pc := 9) hC sm_0 fl_Mo_157 rfl d_Mo_newSymbol_9 ?_
  refine Y_iload_n (pc := 12) hC d_Mo_newSymbol_12 rfl 1 rfl ?_
  obtain ⟨hi, h⟩ := ck_some h
  obtain ⟨V2, hV2, h⟩ := nm_some h
  refine Y_iast (pc := 13) hC sm_9 (by decide) rfl hi hw rfl hV2 d_Mo_newSymbol_13 ?_
  refine Y_aload_n (pc := 14) hC d_Mo_newSymbol_14 rfl 0 rfl ?_
  refine Y_getR (pc := 15) hC sm_0 fl_Mo_39 rfl d_Mo_newSymbol_15 ?_
  refine Y_aload_n (pc := 18) hC d_Mo_newSymbol_18 rfl 0 rfl ?_
  refine Y_getI (pc := 19) hC sm_0 fl_Mo_157 rfl d_Mo_newSymbol_19 ?_
  refine Y_iload_n (pc := 22) hC d_Mo_newSymbol_22 rfl 2 rfl ?_
  obtain ⟨hi, h⟩ := ck_some h
  obtain ⟨V3, hV3, h⟩ := nm_some h
  refine Y_iast (pc := 23) hC sm_10 (by decide) rfl hi hw rfl hV3 d_Mo_newSymbol_23 ?_
  refine Y_aload_n (pc := 24) hC d_Mo_newSymbol_24 rfl 0 rfl ?_
  refine Y_getR (pc := 25) hC sm_0 fl_Mo_42 rfl d_Mo_newSymbol_25 ?_
  refine Y_aload_n (pc := 28) hC d_Mo_newSymbol_28 rfl 0 rfl ?_
  refine Y_getI (pc := 29) hC sm_0 fl_Mo_157 rfl d_Mo_newSymbol_29 ?_
  refine Y_iload_n (pc := 32) hC d_Mo_newSymbol_32 rfl 3 rfl ?_
  obtain ⟨hi, h⟩ := ck_some h
  obtain ⟨V4, hV4, h⟩ := nm_some h
  refine Y_iast (pc := 33) hC sm_11 (by decide) rfl hi hw rfl hV4 d_Mo_newSymbol_33 ?_
  refine Y_aload_n (pc := 34) hC d_Mo_newSymbol_34 rfl 0 rfl ?_
  refine Y_getR (pc := 35) hC sm_0 fl_Mo_45 rfl d_Mo_newSymbol_35 ?_
  refine Y_aload_n (pc := 38) hC d_Mo_newSymbol_38 rfl 0 rfl ?_
  refine Y_getI (pc := 39) hC sm_0 fl_Mo_157 rfl d_Mo_newSymbol_39 ?_
  refine Y_iload (pc := 42) hC d_Mo_newSymbol_42 4 rfl ?_
  obtain ⟨hi, h⟩ := ck_some h
  obtain ⟨V5, hV5, h⟩ := nm_some h
  refine Y_iast (pc := 44) hC sm_12 (by decide) rfl hi hw rfl hV5 d_Mo_newSymbol_44 ?_
  refine Y_aload_n (pc := 45) hC d_Mo_newSymbol_45 rfl 0 rfl ?_
  refine Y_getR (pc := 46) hC sm_0 fl_Mo_48 rfl d_Mo_newSymbol_46 ?_
  refine Y_aload_n (pc := 49) hC d_Mo_newSymbol_49 rfl 0 rfl ?_
  refine Y_getI (pc := 50) hC sm_0 fl_Mo_157 rfl d_Mo_newSymbol_50 ?_
  refine Y_iload (pc := 53) hC d_Mo_newSymbol_53 5 rfl ?_
  obtain ⟨hi, h⟩ := ck_some h
  obtain ⟨V6, hV6, h⟩ := nm_some h
  refine Y_iast (pc := 55) hC sm_13 (by decide) rfl hi hw rfl hV6 d_Mo_newSymbol_55 ?_
  refine Y_aload_n (pc := 56) hC d_Mo_newSymbol_56 rfl 0 rfl ?_
  refine Y_getR (pc := 57) hC sm_0 fl_Mo_51 rfl d_Mo_newSymbol_57 ?_
  refine Y_aload_n (pc := 60) hC d_Mo_newSymbol_60 rfl 0 rfl ?_
  refine Y_getI (pc := 61) hC sm_0 fl_Mo_157 rfl d_Mo_newSymbol_61 ?_
  refine Y_iload (pc := 64) hC d_Mo_newSymbol_64 6 rfl ?_
  obtain ⟨hi, h⟩ := ck_some h
  obtain ⟨V7, hV7, h⟩ := nm_some h
  refine Y_iast (pc := 66) hC sm_14 (by decide) rfl hi hw rfl hV7 d_Mo_newSymbol_66 ?_
  refine Y_aload_n (pc := 67) hC d_Mo_newSymbol_67 rfl 0 rfl ?_
  refine Y_dup (pc := 68) hC d_Mo_newSymbol_68 rfl ?_
  refine Y_getI (pc := 69) hC sm_0 fl_Mo_157 rfl d_Mo_newSymbol_69 ?_
  refine Y_iconst (pc := 72) hC d_Mo_newSymbol_72 ki_1 ?_
  refine Y_iadd (pc := 73) hC d_Mo_newSymbol_73 ?_
  obtain ⟨V8, hV8, h⟩ := nm_some h
  refine Y_put (pc := 74) hC sm_0 fl_Mo_157 rfl (by decide) fp_Mo ft_Mo_13 rfl rfl hw hV8 d_Mo_newSymbol_74 ?_
  refine Y_aload_n (pc := 77) hC d_Mo_newSymbol_77 rfl 0 rfl ?_
  refine Y_getI (pc := 78) hC sm_0 fl_Mo_157 rfl d_Mo_newSymbol_78 ?_
  refine Y_iconst (pc := 81) hC d_Mo_newSymbol_81 ki_1 ?_
  refine Y_isub (pc := 82) hC d_Mo_newSymbol_82 ?_
  exact Y_iret (pc := 83) hC hE d_Mo_newSymbol_83 h
