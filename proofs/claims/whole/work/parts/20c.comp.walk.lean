set_option maxHeartbeats 4000000 in
set_option maxRecDepth 100000 in
theorem c_Ly_takeLinkAway (l : Launch) (D : va_G) (cI cZ : ClassId) (a : Nat → Nat) {V : Sto} {r : Int32} {V' : Sto} (h : f_Ly_takeLinkAway V = some (r, V')) : YMv l D cI cZ a shpC y_Ly_takeLinkAway b_Ly_takeLinkAway 1 rm_Ly_takeLinkAway true [.ref (a 0)] V V' := by
  refine YMv_of (by decide) (Nat.le_of_ble_eq_true rfl) ?_
  intro C hl hDD hcI hcZ ha hC hw hE
  subst hl hDD hcI hcZ ha
  show Y C shpC 1 0 [(0, .ref (C.a 0))] [] V
  have hw := hw rfl
  rw [f_Ly_takeLinkAway] at h
  refine Y_aload_n (pc := 0) hC d_Ly_takeLinkAway_0 rfl 0 rfl ?_
  refine Y_iconst (pc := 1) hC d_Ly_takeLinkAway_1 ki_0 ?_
  obtain ⟨V1, hV1, h⟩ := nm_some h
  refine Y_put (pc := 2) hC sc_0 fl_Ly_243 rfl (by decide) fp_Ly ft_Ly_14 rfl rfl hw hV1 d_Ly_takeLinkAway_2 ?_
  refine Y_aload_n (pc := 5) hC d_Ly_takeLinkAway_5 rfl 0 rfl ?_
  refine Y_iconst (pc := 6) hC d_Ly_takeLinkAway_6 ki_0 ?_
  obtain ⟨V2, hV2, h⟩ := nm_some h
  refine Y_put (pc := 7) hC sc_0 fl_Ly_249 rfl (by decide) fp_Ly ft_Ly_15 rfl rfl hw hV2 d_Ly_takeLinkAway_7 ?_
  refine Y_aload_n (pc := 10) hC d_Ly_takeLinkAway_10 rfl 0 rfl ?_
  refine Y_iconst (pc := 11) hC d_Ly_takeLinkAway_11 ki_m1 ?_
  obtain ⟨V3, hV3, h⟩ := nm_some h
  refine Y_put (pc := 12) hC sc_0 fl_Ly_102 rfl (by decide) fp_Ly ft_Ly_16 rfl rfl hw hV3 d_Ly_takeLinkAway_12 ?_
  refine Y_aload_n (pc := 15) hC d_Ly_takeLinkAway_15 rfl 0 rfl ?_
  refine Y_iconst (pc := 16) hC d_Ly_takeLinkAway_16 ki_m1 ?_
  obtain ⟨V4, hV4, h⟩ := nm_some h
  refine Y_put (pc := 17) hC sc_0 fl_Ly_105 rfl (by decide) fp_Ly ft_Ly_17 rfl rfl hw hV4 d_Ly_takeLinkAway_17 ?_
  exact Y_vret (pc := 20) hC hE d_Ly_takeLinkAway_20 h
set_option maxHeartbeats 4000000 in
set_option maxRecDepth 100000 in
theorem c_Ly_fold (l : Launch) (D : va_G) (cI cZ : ClassId) (a : Nat → Nat) {V : Sto} {p1 : Int32} {p2 : Int32} {r : Int32} {V' : Sto} (h : f_Ly_fold V p1 p2 = some (r, V')) : YMv l D cI cZ a shpC y_Ly_fold b_Ly_fold 3 rm_Ly_fold true [.ref (a 0), .int p1, .int p2] V V' := by
  refine YMv_of (by decide) (Nat.le_of_ble_eq_true rfl) ?_
  intro C hl hDD hcI hcZ ha hC hw hE
  subst hl hDD hcI hcZ ha
  show Y C shpC 3 0 [(0, .ref (C.a 0)), (1, .int p1), (2, .int p2)] [] V
  have hw := hw rfl
  rw [f_Ly_fold] at h
  refine Y_aload_n (pc := 0) hC d_Ly_fold_0 rfl 0 rfl ?_
  obtain ⟨r1, V1, hc_r1, h⟩ := cl_some h
  refine Y_callVv (pc := 1) hC (c_Ly_takeLinkAway C.l C.D C.cI C.cZ C.a hc_r1) (fun _ => hw) sc_0 cls_Ly ml_Ly_123 mv_Ly_takeLinkAway (by decide) (Nat.le_of_ble_eq_true rfl) rfl d_Ly_fold_1 ?_
  refine Y_aload_n (pc := 4) hC d_Ly_fold_4 rfl 0 rfl ?_
  refine Y_iload_n (pc := 5) hC d_Ly_fold_5 rfl 1 rfl ?_
  obtain ⟨hbb, h⟩ := ck_some h
  obtain ⟨V2, hV2, h⟩ := nm_some h
  refine Y_put (pc := 6) hC sc_0 fl_Ly_223 rfl (by decide) fp_Ly ft_Ly_12 (bb_nar hbb) (bb_fit hbb) hw hV2 d_Ly_fold_6 ?_
  refine Y_aload_n (pc := 9) hC d_Ly_fold_9 rfl 0 rfl ?_
  refine Y_iload_n (pc := 10) hC d_Ly_fold_10 rfl 2 rfl ?_
  obtain ⟨hbb, h⟩ := ck_some h
  obtain ⟨V3, hV3, h⟩ := nm_some h
  refine Y_put (pc := 11) hC sc_0 fl_Ly_227 rfl (by decide) fp_Ly ft_Ly_13 (bb_nar hbb) (bb_fit hbb) hw hV3 d_Ly_fold_11 ?_
  exact Y_vret (pc := 14) hC hE d_Ly_fold_14 h
set_option maxHeartbeats 4000000 in
set_option maxRecDepth 100000 in
theorem c_Se_forget (l : Launch) (D : va_G) (cI cZ : ClassId) (a : Nat → Nat) {V : Sto} {r : Int32} {V' : Sto} (h : f_Se_forget V = some (r, V')) : YMv l D cI cZ a shpC y_Se_forget b_Se_forget 1 rm_Se_forget true [.ref (a 2)] V V' := by
  refine YMv_of (by decide) (Nat.le_of_ble_eq_true rfl) ?_
  intro C hl hDD hcI hcZ ha hC hw hE
  subst hl hDD hcI hcZ ha
  show Y C shpC 1 0 [(0, .ref (C.a 2))] [] V
  have hw := hw rfl
  rw [f_Se_forget] at h
  refine Y_aload_n (pc := 0) hC d_Se_forget_0 rfl 0 rfl ?_
  refine Y_iconst (pc := 1) hC d_Se_forget_1 ki_0 ?_
  obtain ⟨V1, hV1, h⟩ := nm_some h
  refine Y_put (pc := 2) hC sc_2 fl_Se_34 rfl (by decide) fp_Se ft_Se_0 rfl rfl hw hV1 d_Se_forget_2 ?_
  refine Y_aload_n (pc := 5) hC d_Se_forget_5 rfl 0 rfl ?_
  refine Y_iconst (pc := 6) hC d_Se_forget_6 ki_0 ?_
  obtain ⟨V2, hV2, h⟩ := nm_some h
  refine Y_put (pc := 7) hC sc_2 fl_Se_45 rfl (by decide) fp_Se ft_Se_1 rfl rfl hw hV2 d_Se_forget_7 ?_
  refine Y_aload_n (pc := 10) hC d_Se_forget_10 rfl 0 rfl ?_
  refine Y_iconst (pc := 11) hC d_Se_forget_11 ki_0 ?_
  obtain ⟨V3, hV3, h⟩ := nm_some h
  refine Y_put (pc := 12) hC sc_2 fl_Se_42 rfl (by decide) fp_Se ft_Se_2 rfl rfl hw hV3 d_Se_forget_12 ?_
  exact Y_vret (pc := 15) hC hE d_Se_forget_15 h
set_option maxHeartbeats 4000000 in
set_option maxRecDepth 100000 in
theorem c_Ly_clear (l : Launch) (D : va_G) (cI cZ : ClassId) (a : Nat → Nat) {V : Sto} {r : Int32} {V' : Sto} (h : f_Ly_clear V = some (r, V')) : YMv l D cI cZ a shpC y_Ly_clear b_Ly_clear 1 rm_Ly_clear true [.ref (a 0)] V V' := by
  refine YMv_of (by decide) (Nat.le_of_ble_eq_true rfl) ?_
  intro C hl hDD hcI hcZ ha hC hw hE
  subst hl hDD hcI hcZ ha
  show Y C shpC 1 0 [(0, .ref (C.a 0))] [] V
  have hw := hw rfl
  rw [f_Ly_clear] at h
  refine Y_aload_n (pc := 0) hC d_Ly_clear_0 rfl 0 rfl ?_
  obtain ⟨r1, V1, hc_r1, h⟩ := cl_some h
  refine Y_callVv (pc := 1) hC (c_Ly_takeLinkAway C.l C.D C.cI C.cZ C.a hc_r1) (fun _ => hw) sc_0 cls_Ly ml_Ly_123 mv_Ly_takeLinkAway (by decide) (Nat.le_of_ble_eq_true rfl) rfl d_Ly_clear_1 ?_
  refine Y_aload_n (pc := 4) hC d_Ly_clear_4 rfl 0 rfl ?_
  refine Y_getR (pc := 5) hC sc_0 fl_Ly_10 rfl d_Ly_clear_5 ?_
  refine Y_iconst (pc := 8) hC d_Ly_clear_8 ki_0 ?_
  obtain ⟨V2, hV2, h⟩ := nm_some h
  refine Y_put (pc := 9) hC sc_1 fl_Ly_115 rfl (by decide) fp_Un ft_Un_0 rfl rfl hw hV2 d_Ly_clear_9 ?_
  refine Y_aload_n (pc := 12) hC d_Ly_clear_12 rfl 0 rfl ?_
  refine Y_getR (pc := 13) hC sc_0 fl_Ly_19 rfl d_Ly_clear_13 ?_
  obtain ⟨r2, V3, hc_r2, h⟩ := cl_some h
  refine Y_callVv (pc := 16) hC (c_Se_forget C.l C.D C.cI C.cZ C.a hc_r2) (fun _ => hw) sc_2 cls_Se ml_Ly_230 mv_Se_forget (by decide) (Nat.le_of_ble_eq_true rfl) rfl d_Ly_clear_16 ?_
  refine Y_aload_n (pc := 19) hC d_Ly_clear_19 rfl 0 rfl ?_
  refine Y_getR (pc := 20) hC sc_0 fl_Ly_26 rfl d_Ly_clear_20 ?_
  refine Y_iconst (pc := 23) hC d_Ly_clear_23 ki_0 ?_
  obtain ⟨V4, hV4, h⟩ := nm_some h
  refine Y_put (pc := 24) hC sc_3 fl_Ly_185 rfl (by decide) fp_Sy ft_Sy_0 rfl rfl hw hV4 d_Ly_clear_24 ?_
  refine Y_aload_n (pc := 27) hC d_Ly_clear_27 rfl 0 rfl ?_
  refine Y_getR (pc := 28) hC sc_0 fl_Ly_33 rfl d_Ly_clear_28 ?_
  refine Y_iconst (pc := 31) hC d_Ly_clear_31 ki_0 ?_
  obtain ⟨V5, hV5, h⟩ := nm_some h
  refine Y_put (pc := 32) hC sc_4 fl_Ly_209 rfl (by decide) fp_Re ft_Re_0 rfl rfl hw hV5 d_Ly_clear_32 ?_
  refine Y_aload_n (pc := 35) hC d_Ly_clear_35 rfl 0 rfl ?_
  refine Y_iconst (pc := 36) hC d_Ly_clear_36 ki_m1 ?_
  obtain ⟨V6, hV6, h⟩ := nm_some h
  refine Y_put (pc := 37) hC sc_0 fl_Ly_98 rfl (by decide) fp_Ly ft_Ly_11 rfl rfl hw hV6 d_Ly_clear_37 ?_
  refine Y_aload_n (pc := 40) hC d_Ly_clear_40 rfl 0 rfl ?_
  refine Y_iconst (pc := 41) hC d_Ly_clear_41 ki_0 ?_
  obtain ⟨V7, hV7, h⟩ := nm_some h
  refine Y_put (pc := 42) hC sc_0 fl_Ly_223 rfl (by decide) fp_Ly ft_Ly_12 rfl rfl hw hV7 d_Ly_clear_42 ?_
  refine Y_aload_n (pc := 45) hC d_Ly_clear_45 rfl 0 rfl ?_
  refine Y_iconst (pc := 46) hC d_Ly_clear_46 ki_0 ?_
  obtain ⟨V8, hV8, h⟩ := nm_some h
  refine Y_put (pc := 47) hC sc_0 fl_Ly_227 rfl (by decide) fp_Ly ft_Ly_13 rfl rfl hw hV8 d_Ly_clear_47 ?_
  exact Y_vret (pc := 50) hC hE d_Ly_clear_50 h
set_option maxHeartbeats 4000000 in
set_option maxRecDepth 100000 in
theorem c_Sy_asksForName (l : Launch) (D : va_G) (cI cZ : ClassId) (a : Nat → Nat) {V : Sto} {p1 : Int32} {r : Int32} {V' : Sto} (h : f_Sy_asksForName V p1 = some (r, V')) : YMi l D cI cZ a shpC y_Sy_asksForName b_Sy_asksForName 2 (some .boolean) rm_Sy_asksForName false [.ref (a 3), .int p1] V r V' := by
  refine YMi_of (by decide) (Nat.le_of_ble_eq_true rfl) ?_
  intro C hl hDD hcI hcZ ha hC hw hE
  subst hl hDD hcI hcZ ha
  show Y C shpC 2 0 [(0, .ref (C.a 3)), (1, .int p1)] [] V
  rw [f_Sy_asksForName] at h
  refine Y_aload_n (pc := 0) hC d_Sy_asksForName_0 rfl 0 rfl ?_
  refine Y_getR (pc := 1) hC sc_3 fl_Sy_18 rfl d_Sy_asksForName_1 ?_
  refine Y_iload_n (pc := 4) hC d_Sy_asksForName_4 rfl 1 rfl ?_
  obtain ⟨hi, h⟩ := ck_some h
  refine Y_iald (pc := 5) hC sc_23 rfl hi d_Sy_asksForName_5 ?_
  refine Y_iconst (pc := 6) hC d_Sy_asksForName_6 ki_1 ?_
  refine Y_icmp_ne (pc := 7) hC 23 d_Sy_asksForName_7 rfl (fun cc_7 => ?_) (fun cc_7 => ?_)
  · have h := ifn cc_7 h
    refine Y_iconst (pc := 23) hC d_Sy_asksForName_23 ki_0 ?_
    exact Y_zret (pc := 24) hC hE d_Sy_asksForName_24 rfl h
  · have h := ifp cc_7 h
    refine Y_aload_n (pc := 10) hC d_Sy_asksForName_10 rfl 0 rfl ?_
    refine Y_getR (pc := 11) hC sc_3 fl_Sy_21 rfl d_Sy_asksForName_11 ?_
    refine Y_iload_n (pc := 14) hC d_Sy_asksForName_14 rfl 1 rfl ?_
    obtain ⟨hi, h⟩ := ck_some h
    refine Y_iald (pc := 15) hC sc_24 rfl hi d_Sy_asksForName_15 ?_
    refine Y_if_ne (pc := 16) hC 23 d_Sy_asksForName_16 rfl (fun cc_16 => ?_) (fun cc_16 => ?_)
    · have h := ifn cc_16 h
      refine Y_iconst (pc := 23) hC d_Sy_asksForName_23 ki_0 ?_
      exact Y_zret (pc := 24) hC hE d_Sy_asksForName_24 rfl h
    · have h := ifp cc_16 h
      refine Y_iconst (pc := 19) hC d_Sy_asksForName_19 ki_1 ?_
      refine Y_goto (pc := 20) hC 24 d_Sy_asksForName_20 rfl ?_
      exact Y_zret (pc := 24) hC hE d_Sy_asksForName_24 rfl h
set_option maxHeartbeats 4000000 in
set_option maxRecDepth 100000 in
theorem c_Sy_givesName (l : Launch) (D : va_G) (cI cZ : ClassId) (a : Nat → Nat) {V : Sto} {p1 : Int32} {r : Int32} {V' : Sto} (h : f_Sy_givesName V p1 = some (r, V')) : YMi l D cI cZ a shpC y_Sy_givesName b_Sy_givesName 2 (some .boolean) rm_Sy_givesName false [.ref (a 3), .int p1] V r V' := by
  refine YMi_of (by decide) (Nat.le_of_ble_eq_true rfl) ?_
  intro C hl hDD hcI hcZ ha hC hw hE
  subst hl hDD hcI hcZ ha
  show Y C shpC 2 0 [(0, .ref (C.a 3)), (1, .int p1)] [] V
  rw [f_Sy_givesName] at h
  refine Y_aload_n (pc := 0) hC d_Sy_givesName_0 rfl 0 rfl ?_
  refine Y_getR (pc := 1) hC sc_3 fl_Sy_18 rfl d_Sy_givesName_1 ?_
  refine Y_iload_n (pc := 4) hC d_Sy_givesName_4 rfl 1 rfl ?_
  obtain ⟨hi, h⟩ := ck_some h
  refine Y_iald (pc := 5) hC sc_23 rfl hi d_Sy_givesName_5 ?_
  refine Y_if_eq (pc := 6) hC 22 d_Sy_givesName_6 rfl (fun cc_6 => ?_) (fun cc_6 => ?_)
  · have h := ifp cc_6 h
    refine Y_iconst (pc := 22) hC d_Sy_givesName_22 ki_0 ?_
    exact Y_zret (pc := 23) hC hE d_Sy_givesName_23 rfl h
  · have h := ifn cc_6 h
    refine Y_aload_n (pc := 9) hC d_Sy_givesName_9 rfl 0 rfl ?_
    refine Y_getR (pc := 10) hC sc_3 fl_Sy_21 rfl d_Sy_givesName_10 ?_
    refine Y_iload_n (pc := 13) hC d_Sy_givesName_13 rfl 1 rfl ?_
    obtain ⟨hi, h⟩ := ck_some h
    refine Y_iald (pc := 14) hC sc_24 rfl hi d_Sy_givesName_14 ?_
    refine Y_if_eq (pc := 15) hC 22 d_Sy_givesName_15 rfl (fun cc_15 => ?_) (fun cc_15 => ?_)
    · have h := ifp cc_15 h
      refine Y_iconst (pc := 22) hC d_Sy_givesName_22 ki_0 ?_
      exact Y_zret (pc := 23) hC hE d_Sy_givesName_23 rfl h
    · have h := ifn cc_15 h
      refine Y_iconst (pc := 18) hC d_Sy_givesName_18 ki_1 ?_
      refine Y_goto (pc := 19) hC 23 d_Sy_givesName_19 rfl ?_
      exact Y_zret (pc := 23) hC hE d_Sy_givesName_23 rfl h
set_option maxHeartbeats 4000000 in
set_option maxRecDepth 100000 in
theorem c_Ar_note (l : Launch) (D : va_G) (cI cZ : ClassId) (a : Nat → Nat) {V : Sto} {p1 : Int32} {r : Int32} {V' : Sto} (h : f_Ar_note V p1 = some (r, V')) : YMv l D cI cZ a shpC y_Ar_note b_Ar_note 2 rm_Ar_note true [.ref (a 5), .int p1] V V' := by
  refine YMv_of (by decide) (Nat.le_of_ble_eq_true rfl) ?_
  intro C hl hDD hcI hcZ ha hC hw hE
  subst hl hDD hcI hcZ ha
  show Y C shpC 2 0 [(0, .ref (C.a 5)), (1, .int p1)] [] V
  have hw := hw rfl
  rw [f_Ar_note] at h
  refine Y_aload_n (pc := 0) hC d_Ar_note_0 rfl 0 rfl ?_
  refine Y_getR (pc := 1) hC sc_5 fl_Ar_22 rfl d_Ar_note_1 ?_
  refine Y_iload_n (pc := 4) hC d_Ar_note_4 rfl 1 rfl ?_
  obtain ⟨r1, V1, hc_r1, h⟩ := cl_some h
  refine Y_callV (pc := 5) hC (c_Sy_asksForName C.l C.D C.cI C.cZ C.a hc_r1) (fun q => nomatch q) sc_3 cls_Sy ml_Ar_63 mv_Sy_asksForName (by decide) (Nat.le_of_ble_eq_true rfl) rfl d_Ar_note_5 ?_
  obtain ⟨j1, hj1, h⟩ := jn_some h
  have kj1 : ∀ (V3 : Sto), j1 V3 = some (r, V') → Y C shpC 2 26 [(0, .ref (C.a 5)), (1, .int p1)] [] V3 := by
    intro V3 h
    subst hj1
    dsimp only at h
    refine Y_aload_n (pc := 26) hC d_Ar_note_26 rfl 0 rfl ?_
    refine Y_getR (pc := 27) hC sc_5 fl_Ar_22 rfl d_Ar_note_27 ?_
    refine Y_iload_n (pc := 30) hC d_Ar_note_30 rfl 1 rfl ?_
    obtain ⟨r2, V4, hc_r2, h⟩ := cl_some h
    refine Y_callV (pc := 31) hC (c_Sy_givesName C.l C.D C.cI C.cZ C.a hc_r2) (fun q => nomatch q) sc_3 cls_Sy ml_Ar_70 mv_Sy_givesName (by decide) (Nat.le_of_ble_eq_true rfl) rfl d_Ar_note_31 ?_
    refine Y_if_eq (pc := 34) hC 52 d_Ar_note_34 rfl (fun cc_34 => ?_) (fun cc_34 => ?_)
    · have h := ifp cc_34 h
      exact Y_vret (pc := 52) hC hE d_Ar_note_52 h
    · have h := ifn cc_34 h
      refine Y_aload_n (pc := 37) hC d_Ar_note_37 rfl 0 rfl ?_
      refine Y_getR (pc := 38) hC sc_5 fl_Ar_15 rfl d_Ar_note_38 ?_
      refine Y_aload_n (pc := 41) hC d_Ar_note_41 rfl 0 rfl ?_
      refine Y_getR (pc := 42) hC sc_5 fl_Ar_22 rfl d_Ar_note_42 ?_
      refine Y_getR (pc := 45) hC sc_3 fl_Ar_67 rfl d_Ar_note_45 ?_
      refine Y_iload_n (pc := 48) hC d_Ar_note_48 rfl 1 rfl ?_
      obtain ⟨hi, h⟩ := ck_some h
      refine Y_iald (pc := 49) hC sc_22 rfl hi d_Ar_note_49 ?_
      refine Y_iconst (pc := 50) hC d_Ar_note_50 ki_1 ?_
      obtain ⟨hi, h⟩ := ck_some h
      obtain ⟨V5, hV5, h⟩ := nm_some h
      refine Y_zast (pc := 51) hC sc_36 (by decide) rfl hi hw rfl hV5 d_Ar_note_51 ?_
      exact Y_vret (pc := 52) hC hE d_Ar_note_52 h
  refine Y_if_eq (pc := 8) hC 26 d_Ar_note_8 rfl (fun cc_8 => ?_) (fun cc_8 => ?_)
  · have h := ifp cc_8 h
    refine Y_sub (pc := 26) [0, 1] rfl ?_
    exact kj1 _ h
  · have h := ifn cc_8 h
    refine Y_aload_n (pc := 11) hC d_Ar_note_11 rfl 0 rfl ?_
    refine Y_getR (pc := 12) hC sc_5 fl_Ar_9 rfl d_Ar_note_12 ?_
    refine Y_aload_n (pc := 15) hC d_Ar_note_15 rfl 0 rfl ?_
    refine Y_getR (pc := 16) hC sc_5 fl_Ar_22 rfl d_Ar_note_16 ?_
    refine Y_getR (pc := 19) hC sc_3 fl_Ar_67 rfl d_Ar_note_19 ?_
    refine Y_iload_n (pc := 22) hC d_Ar_note_22 rfl 1 rfl ?_
    obtain ⟨hi, h⟩ := ck_some h
    refine Y_iald (pc := 23) hC sc_22 rfl hi d_Ar_note_23 ?_
    refine Y_iconst (pc := 24) hC d_Ar_note_24 ki_1 ?_
    obtain ⟨hi, h⟩ := ck_some h
    obtain ⟨V2, hV2, h⟩ := nm_some h
    refine Y_zast (pc := 25) hC sc_35 (by decide) rfl hi hw rfl hV2 d_Ar_note_25 ?_
    refine Y_sub (pc := 26) [0, 1] rfl ?_
    exact kj1 _ h
set_option maxHeartbeats 4000000 in
set_option maxRecDepth 100000 in
theorem ylp_Ar_admit_12 {C : YC} {r : Int32} {V' : Sto} {x1 : Int32} {k47 : Sto → RT} (hC : YF C R_Ar b_Ar_admit 3 rm_Ar_admit) (hw : YWr C shpC) (hE : YEv C shpC V') (hk47 : ∀ (V1 : Sto), k47 V1 = some (r, V') → Y C shpC 3 47 [] [] V1) : ∀ (n : Nat) (x2 : Int32) (V : Sto), lp_Ar_admit_12 x1 k47 n x2 V = some (r, V') → Y C shpC 3 12 [(0, .ref (C.a 5)), (1, .int x1), (2, .int x2)] [] V := by
  intro n
  induction n with
  | zero =>
    intro x2 V h
    rw [lp_Ar_admit_12] at h
    cases h
  | succ n ih =>
    intro x2 V h
    rw [lp_Ar_admit_12] at h
    refine Y_iload_n (pc := 12) hC d_Ar_admit_12 rfl 2 rfl ?_
    refine Y_aload_n (pc := 13) hC d_Ar_admit_13 rfl 0 rfl ?_
    refine Y_getR (pc := 14) hC sc_5 fl_Ar_22 rfl d_Ar_admit_14 ?_
    refine Y_getI (pc := 17) hC sc_3 fl_Ar_54 rfl d_Ar_admit_17 ?_
    refine Y_icmp_ge (pc := 20) hC 47 d_Ar_admit_20 rfl (fun cc_20 => ?_) (fun cc_20 => ?_)
    · have h := ifp cc_20 h
      refine Y_sub (pc := 47) [] rfl ?_
      exact hk47 _ h
    · have h := ifn cc_20 h
      refine Y_aload_n (pc := 23) hC d_Ar_admit_23 rfl 0 rfl ?_
      refine Y_getR (pc := 24) hC sc_5 fl_Ar_22 rfl d_Ar_admit_24 ?_
      refine Y_getR (pc := 27) hC sc_3 fl_Ar_57 rfl d_Ar_admit_27 ?_
      refine Y_iload_n (pc := 30) hC d_Ar_admit_30 rfl 2 rfl ?_
      obtain ⟨hi, h⟩ := ck_some h
      refine Y_iald (pc := 31) hC sc_21 rfl hi d_Ar_admit_31 ?_
      refine Y_iload_n (pc := 32) hC d_Ar_admit_32 rfl 1 rfl ?_
      refine Y_icmp_ne (pc := 33) hC 41 d_Ar_admit_33 rfl (fun cc_33 => ?_) (fun cc_33 => ?_)
      · have h := ifn cc_33 h
        refine Y_iinc (pc := 41) hC (v := x2 + 1) (L' := [(2, .int (x2 + 1)), (0, .ref (C.a 5)), (1, .int x1)]) d_Ar_admit_41 2 rfl rfl (by decide) rfl ?_
        refine Y_goto (pc := 44) hC 12 d_Ar_admit_44 rfl ?_
        refine Y_sub (pc := 12) [1, 2, 0] rfl ?_
        exact ih _ _ h
      · have h := ifp cc_33 h
        refine Y_aload_n (pc := 36) hC d_Ar_admit_36 rfl 0 rfl ?_
        refine Y_iload_n (pc := 37) hC d_Ar_admit_37 rfl 2 rfl ?_
        obtain ⟨r1, V2, hc_r1, h⟩ := cl_some h
        refine Y_callVv (pc := 38) hC (c_Ar_note C.l C.D C.cI C.cZ C.a hc_r1) (fun _ => hw) sc_5 cls_Ar ml_Ar_60 mv_Ar_note (by decide) (Nat.le_of_ble_eq_true rfl) rfl d_Ar_admit_38 ?_
        refine Y_iinc (pc := 41) hC (v := x2 + 1) (L' := [(2, .int (x2 + 1)), (0, .ref (C.a 5)), (1, .int x1)]) d_Ar_admit_41 2 rfl rfl (by decide) rfl ?_
        refine Y_goto (pc := 44) hC 12 d_Ar_admit_44 rfl ?_
        refine Y_sub (pc := 12) [1, 2, 0] rfl ?_
        exact ih _ _ h
set_option maxHeartbeats 4000000 in
set_option maxRecDepth 100000 in
theorem c_Ar_admit (l : Launch) (D : va_G) (cI cZ : ClassId) (a : Nat → Nat) {V : Sto} {p1 : Int32} {r : Int32} {V' : Sto} (h : f_Ar_admit V p1 = some (r, V')) : YMv l D cI cZ a shpC y_Ar_admit b_Ar_admit 3 rm_Ar_admit true [.ref (a 5), .int p1] V V' := by
  refine YMv_of (by decide) (Nat.le_of_ble_eq_true rfl) ?_
  intro C hl hDD hcI hcZ ha hC hw hE
  subst hl hDD hcI hcZ ha
  show Y C shpC 3 0 [(0, .ref (C.a 5)), (1, .int p1)] [] V
  have hw := hw rfl
  rw [f_Ar_admit] at h
  refine Y_aload_n (pc := 0) hC d_Ar_admit_0 rfl 0 rfl ?_
  refine Y_getR (pc := 1) hC sc_5 fl_Ar_18 rfl d_Ar_admit_1 ?_
  refine Y_getR (pc := 4) hC sc_1 fl_Ar_40 rfl d_Ar_admit_4 ?_
  refine Y_iload_n (pc := 7) hC d_Ar_admit_7 rfl 1 rfl ?_
  refine Y_iconst (pc := 8) hC d_Ar_admit_8 ki_1 ?_
  obtain ⟨hi, h⟩ := ck_some h
  obtain ⟨V1, hV1, h⟩ := nm_some h
  refine Y_zast (pc := 9) hC sc_13 (by decide) rfl hi hw rfl hV1 d_Ar_admit_9 ?_
  refine Y_iconst (pc := 10) hC d_Ar_admit_10 ki_0 ?_
  refine Y_istore_n (pc := 11) hC (L' := [(2, .int 0), (0, .ref (C.a 5)), (1, .int p1)]) d_Ar_admit_11 rfl (by decide) rfl ?_
  refine Y_sub (pc := 12) [1, 2, 0] rfl ?_
  refine ylp_Ar_admit_12 hC hw hE (fun V3 h => ?_) FU _ _ h
  exact Y_vret (pc := 47) hC hE d_Ar_admit_47 h
set_option maxHeartbeats 4000000 in
set_option maxRecDepth 100000 in
theorem ylp_Ar_begin_2 {C : YC} {r : Int32} {V' : Sto} {x1 : Int32} {k38 : Sto → RT} (hC : YF C R_Ar b_Ar_begin 3 rm_Ar_begin) (hw : YWr C shpC) (hE : YEv C shpC V') (hk38 : ∀ (V1 : Sto), k38 V1 = some (r, V') → Y C shpC 3 38 [(0, .ref (C.a 5))] [] V1) : ∀ (n : Nat) (x2 : Int32) (V : Sto), lp_Ar_begin_2 x1 k38 n x2 V = some (r, V') → Y C shpC 3 2 [(0, .ref (C.a 5)), (1, .int x1), (2, .int x2)] [] V := by
  intro n
  induction n with
  | zero =>
    intro x2 V h
    rw [lp_Ar_begin_2] at h
    cases h
  | succ n ih =>
    intro x2 V h
    rw [lp_Ar_begin_2] at h
    refine Y_iload_n (pc := 2) hC d_Ar_begin_2 rfl 2 rfl ?_
    refine Y_sipush (pc := 3) hC d_Ar_begin_3 ks_200 ?_
    refine Y_icmp_ge (pc := 6) hC 38 d_Ar_begin_6 rfl (fun cc_6 => ?_) (fun cc_6 => ?_)
    · have h := ifp cc_6 h
      refine Y_sub (pc := 38) [0] rfl ?_
      exact hk38 _ h
    · have h := ifn cc_6 h
      refine Y_aload_n (pc := 9) hC d_Ar_begin_9 rfl 0 rfl ?_
      refine Y_getR (pc := 10) hC sc_5 fl_Ar_9 rfl d_Ar_begin_10 ?_
      refine Y_iload_n (pc := 13) hC d_Ar_begin_13 rfl 2 rfl ?_
      refine Y_iload_n (pc := 14) hC d_Ar_begin_14 rfl 2 rfl ?_
      refine Y_iload_n (pc := 15) hC d_Ar_begin_15 rfl 1 rfl ?_
      refine Y_icmp_ne (pc := 16) hC 23 d_Ar_begin_16 rfl (fun cc_16 => ?_) (fun cc_16 => ?_)
      · have h := ifn cc_16 h
        refine Y_iconst (pc := 23) hC d_Ar_begin_23 ki_0 ?_
        obtain ⟨hi, h⟩ := ck_some h
        obtain ⟨V1, hV1, h⟩ := nm_some h
        refine Y_zast (pc := 24) hC sc_35 (by decide) rfl hi hw rfl hV1 d_Ar_begin_24 ?_
        refine Y_aload_n (pc := 25) hC d_Ar_begin_25 rfl 0 rfl ?_
        refine Y_getR (pc := 26) hC sc_5 fl_Ar_15 rfl d_Ar_begin_26 ?_
        refine Y_iload_n (pc := 29) hC d_Ar_begin_29 rfl 2 rfl ?_
        refine Y_iconst (pc := 30) hC d_Ar_begin_30 ki_0 ?_
        obtain ⟨hi, h⟩ := ck_some h
        obtain ⟨V2, hV2, h⟩ := nm_some h
        refine Y_zast (pc := 31) hC sc_36 (by decide) rfl hi hw rfl hV2 d_Ar_begin_31 ?_
        refine Y_iinc (pc := 32) hC (v := x2 + 1) (L' := [(2, .int (x2 + 1)), (0, .ref (C.a 5)), (1, .int x1)]) d_Ar_begin_32 2 rfl rfl (by decide) rfl ?_
        refine Y_goto (pc := 35) hC 2 d_Ar_begin_35 rfl ?_
        refine Y_sub (pc := 2) [1, 2, 0] rfl ?_
        exact ih _ _ h
      · have h := ifp cc_16 h
        refine Y_iconst (pc := 19) hC d_Ar_begin_19 ki_1 ?_
        refine Y_goto (pc := 20) hC 24 d_Ar_begin_20 rfl ?_
        obtain ⟨hi, h⟩ := ck_some h
        obtain ⟨V3, hV3, h⟩ := nm_some h
        refine Y_zast (pc := 24) hC sc_35 (by decide) rfl hi hw rfl hV3 d_Ar_begin_24 ?_
        refine Y_aload_n (pc := 25) hC d_Ar_begin_25 rfl 0 rfl ?_
        refine Y_getR (pc := 26) hC sc_5 fl_Ar_15 rfl d_Ar_begin_26 ?_
        refine Y_iload_n (pc := 29) hC d_Ar_begin_29 rfl 2 rfl ?_
        refine Y_iconst (pc := 30) hC d_Ar_begin_30 ki_0 ?_
        obtain ⟨hi, h⟩ := ck_some h
        obtain ⟨V4, hV4, h⟩ := nm_some h
        refine Y_zast (pc := 31) hC sc_36 (by decide) rfl hi hw rfl hV4 d_Ar_begin_31 ?_
        refine Y_iinc (pc := 32) hC (v := x2 + 1) (L' := [(2, .int (x2 + 1)), (0, .ref (C.a 5)), (1, .int x1)]) d_Ar_begin_32 2 rfl rfl (by decide) rfl ?_
        refine Y_goto (pc := 35) hC 2 d_Ar_begin_35 rfl ?_
        refine Y_sub (pc := 2) [1, 2, 0] rfl ?_
        exact ih _ _ h
set_option maxHeartbeats 4000000 in
set_option maxRecDepth 100000 in
theorem ylp_Ar_begin_40 {C : YC} {r : Int32} {V' : Sto} {k67 : Sto → RT} (hC : YF C R_Ar b_Ar_begin 3 rm_Ar_begin) (hw : YWr C shpC) (hE : YEv C shpC V') (hk67 : ∀ (V1 : Sto), k67 V1 = some (r, V') → Y C shpC 3 67 [(0, .ref (C.a 5))] [] V1) : ∀ (n : Nat) (x2 : Int32) (V : Sto), lp_Ar_begin_40 k67 n x2 V = some (r, V') → Y C shpC 3 40 [(0, .ref (C.a 5)), (2, .int x2)] [] V := by
  intro n
  induction n with
  | zero =>
    intro x2 V h
    rw [lp_Ar_begin_40] at h
    cases h
  | succ n ih =>
    intro x2 V h
    rw [lp_Ar_begin_40] at h
    refine Y_iload_n (pc := 40) hC d_Ar_begin_40 rfl 1 rfl ?_
    refine Y_aload_n (pc := 41) hC d_Ar_begin_41 rfl 0 rfl ?_
    refine Y_getR (pc := 42) hC sc_5 fl_Ar_18 rfl d_Ar_begin_42 ?_
    refine Y_getI (pc := 45) hC sc_1 fl_Ar_34 rfl d_Ar_begin_45 ?_
    refine Y_icmp_ge (pc := 48) hC 67 d_Ar_begin_48 rfl (fun cc_48 => ?_) (fun cc_48 => ?_)
    · have h := ifp cc_48 h
      refine Y_sub (pc := 67) [0] rfl ?_
      exact hk67 _ h
    · have h := ifn cc_48 h
      refine Y_aload_n (pc := 51) hC d_Ar_begin_51 rfl 0 rfl ?_
      refine Y_getR (pc := 52) hC sc_5 fl_Ar_18 rfl d_Ar_begin_52 ?_
      refine Y_getR (pc := 55) hC sc_1 fl_Ar_40 rfl d_Ar_begin_55 ?_
      refine Y_iload_n (pc := 58) hC d_Ar_begin_58 rfl 1 rfl ?_
      refine Y_iconst (pc := 59) hC d_Ar_begin_59 ki_0 ?_
      obtain ⟨hi, h⟩ := ck_some h
      obtain ⟨V6, hV6, h⟩ := nm_some h
      refine Y_zast (pc := 60) hC sc_13 (by decide) rfl hi hw rfl hV6 d_Ar_begin_60 ?_
      refine Y_iinc (pc := 61) hC (v := x2 + 1) (L' := [(2, .int (x2 + 1)), (0, .ref (C.a 5))]) d_Ar_begin_61 1 rfl rfl (by decide) rfl ?_
      refine Y_goto (pc := 64) hC 40 d_Ar_begin_64 rfl ?_
      refine Y_sub (pc := 40) [1, 0] rfl ?_
      exact ih _ _ h
set_option maxHeartbeats 4000000 in
set_option maxRecDepth 100000 in
theorem ylp_Ar_begin_69 {C : YC} {r : Int32} {V' : Sto} {k104 : Sto → RT} (hC : YF C R_Ar b_Ar_begin 3 rm_Ar_begin) (hw : YWr C shpC) (hE : YEv C shpC V') (hk104 : ∀ (V1 : Sto), k104 V1 = some (r, V') → Y C shpC 3 104 [] [] V1) : ∀ (n : Nat) (x2 : Int32) (V : Sto), lp_Ar_begin_69 k104 n x2 V = some (r, V') → Y C shpC 3 69 [(0, .ref (C.a 5)), (2, .int x2)] [] V := by
  intro n
  induction n with
  | zero =>
    intro x2 V h
    rw [lp_Ar_begin_69] at h
    cases h
  | succ n ih =>
    intro x2 V h
    rw [lp_Ar_begin_69] at h
    refine Y_iload_n (pc := 69) hC d_Ar_begin_69 rfl 1 rfl ?_
    refine Y_aload_n (pc := 70) hC d_Ar_begin_70 rfl 0 rfl ?_
    refine Y_getR (pc := 71) hC sc_5 fl_Ar_18 rfl d_Ar_begin_71 ?_
    refine Y_getI (pc := 74) hC sc_1 fl_Ar_34 rfl d_Ar_begin_74 ?_
    refine Y_icmp_ge (pc := 77) hC 104 d_Ar_begin_77 rfl (fun cc_77 => ?_) (fun cc_77 => ?_)
    · have h := ifp cc_77 h
      refine Y_sub (pc := 104) [] rfl ?_
      exact hk104 _ h
    · have h := ifn cc_77 h
      refine Y_aload_n (pc := 80) hC d_Ar_begin_80 rfl 0 rfl ?_
      refine Y_getR (pc := 81) hC sc_5 fl_Ar_18 rfl d_Ar_begin_81 ?_
      refine Y_getR (pc := 84) hC sc_1 fl_Ar_43 rfl d_Ar_begin_84 ?_
      refine Y_iload_n (pc := 87) hC d_Ar_begin_87 rfl 1 rfl ?_
      obtain ⟨hi, h⟩ := ck_some h
      refine Y_iald (pc := 88) hC sc_12 rfl hi d_Ar_begin_88 ?_
      refine Y_iconst (pc := 89) hC d_Ar_begin_89 ki_m1 ?_
      refine Y_icmp_ne (pc := 90) hC 98 d_Ar_begin_90 rfl (fun cc_90 => ?_) (fun cc_90 => ?_)
      · have h := ifn cc_90 h
        refine Y_iinc (pc := 98) hC (v := x2 + 1) (L' := [(2, .int (x2 + 1)), (0, .ref (C.a 5))]) d_Ar_begin_98 1 rfl rfl (by decide) rfl ?_
        refine Y_goto (pc := 101) hC 69 d_Ar_begin_101 rfl ?_
        refine Y_sub (pc := 69) [1, 0] rfl ?_
        exact ih _ _ h
      · have h := ifp cc_90 h
        refine Y_aload_n (pc := 93) hC d_Ar_begin_93 rfl 0 rfl ?_
        refine Y_iload_n (pc := 94) hC d_Ar_begin_94 rfl 1 rfl ?_
        obtain ⟨r1, V8, hc_r1, h⟩ := cl_some h
        refine Y_callVv (pc := 95) hC (c_Ar_admit C.l C.D C.cI C.cZ C.a hc_r1) (fun _ => hw) sc_5 cls_Ar ml_Ar_47 mv_Ar_admit (by decide) (Nat.le_of_ble_eq_true rfl) rfl d_Ar_begin_95 ?_
        refine Y_iinc (pc := 98) hC (v := x2 + 1) (L' := [(2, .int (x2 + 1)), (0, .ref (C.a 5))]) d_Ar_begin_98 1 rfl rfl (by decide) rfl ?_
        refine Y_goto (pc := 101) hC 69 d_Ar_begin_101 rfl ?_
        refine Y_sub (pc := 69) [1, 0] rfl ?_
        exact ih _ _ h
set_option maxHeartbeats 4000000 in
set_option maxRecDepth 100000 in
theorem c_Ar_begin (l : Launch) (D : va_G) (cI cZ : ClassId) (a : Nat → Nat) {V : Sto} {p1 : Int32} {r : Int32} {V' : Sto} (h : f_Ar_begin V p1 = some (r, V')) : YMv l D cI cZ a shpC y_Ar_begin b_Ar_begin 3 rm_Ar_begin true [.ref (a 5), .int p1] V V' := by
  refine YMv_of (by decide) (Nat.le_of_ble_eq_true rfl) ?_
  intro C hl hDD hcI hcZ ha hC hw hE
  subst hl hDD hcI hcZ ha
  show Y C shpC 3 0 [(0, .ref (C.a 5)), (1, .int p1)] [] V
  have hw := hw rfl
  rw [f_Ar_begin] at h
  refine Y_iconst (pc := 0) hC d_Ar_begin_0 ki_0 ?_
  refine Y_istore_n (pc := 1) hC (L' := [(2, .int 0), (0, .ref (C.a 5)), (1, .int p1)]) d_Ar_begin_1 rfl (by decide) rfl ?_
  refine Y_sub (pc := 2) [1, 2, 0] rfl ?_
  refine ylp_Ar_begin_2 hC hw hE (fun V5 h => ?_) FU _ _ h
  refine Y_iconst (pc := 38) hC d_Ar_begin_38 ki_0 ?_
  refine Y_istore_n (pc := 39) hC (L' := [(2, .int 0), (0, .ref (C.a 5))]) d_Ar_begin_39 rfl (by decide) rfl ?_
  refine Y_sub (pc := 40) [1, 0] rfl ?_
  refine ylp_Ar_begin_40 hC hw hE (fun V7 h => ?_) FU _ _ h
  refine Y_iconst (pc := 67) hC d_Ar_begin_67 ki_0 ?_
  refine Y_istore_n (pc := 68) hC (L' := [(2, .int 0), (0, .ref (C.a 5))]) d_Ar_begin_68 rfl (by decide) rfl ?_
  refine Y_sub (pc := 69) [1, 0] rfl ?_
  refine ylp_Ar_begin_69 hC hw hE (fun V9 h => ?_) FU _ _ h
  exact Y_vret (pc := 104) hC hE d_Ar_begin_104 h
set_option maxHeartbeats 4000000 in
set_option maxRecDepth 100000 in
theorem c_Ar_isNeeded (l : Launch) (D : va_G) (cI cZ : ClassId) (a : Nat → Nat) {V : Sto} {p1 : Int32} {r : Int32} {V' : Sto} (h : f_Ar_isNeeded V p1 = some (r, V')) : YMi l D cI cZ a shpC y_Ar_isNeeded b_Ar_isNeeded 3 (some .boolean) rm_Ar_isNeeded false [.ref (a 5), .int p1] V r V' := by
  refine YMi_of (by decide) (Nat.le_of_ble_eq_true rfl) ?_
  intro C hl hDD hcI hcZ ha hC hw hE
  subst hl hDD hcI hcZ ha
  show Y C shpC 3 0 [(0, .ref (C.a 5)), (1, .int p1)] [] V
  rw [f_Ar_isNeeded] at h
  refine Y_aload_n (pc := 0) hC d_Ar_isNeeded_0 rfl 0 rfl ?_
  refine Y_getR (pc := 1) hC sc_5 fl_Ar_22 rfl d_Ar_isNeeded_1 ?_
  refine Y_getR (pc := 4) hC sc_3 fl_Ar_67 rfl d_Ar_isNeeded_4 ?_
  refine Y_iload_n (pc := 7) hC d_Ar_isNeeded_7 rfl 1 rfl ?_
  obtain ⟨hi, h⟩ := ck_some h
  refine Y_iald (pc := 8) hC sc_22 rfl hi d_Ar_isNeeded_8 ?_
  refine Y_istore_n (pc := 9) hC (L' := [(2, .int (V 22 p1.toNatClampNeg)), (0, .ref (C.a 5)), (1, .int p1)]) d_Ar_isNeeded_9 rfl (by decide) rfl ?_
  refine Y_aload_n (pc := 10) hC d_Ar_isNeeded_10 rfl 1 rfl ?_
  refine Y_getR (pc := 11) hC sc_5 fl_Ar_22 rfl d_Ar_isNeeded_11 ?_
  refine Y_iload_n (pc := 14) hC d_Ar_isNeeded_14 rfl 2 rfl ?_
  obtain ⟨r1, V1, hc_r1, h⟩ := cl_some h
  refine Y_callV (pc := 15) hC (c_Sy_givesName C.l C.D C.cI C.cZ C.a hc_r1) (fun q => nomatch q) sc_3 cls_Sy ml_Ar_70 mv_Sy_givesName (by decide) (Nat.le_of_ble_eq_true rfl) rfl d_Ar_isNeeded_15 ?_
  refine Y_if_eq (pc := 18) hC 56 d_Ar_isNeeded_18 rfl (fun cc_18 => ?_) (fun cc_18 => ?_)
  · have h := ifp cc_18 h
    refine Y_iconst (pc := 56) hC d_Ar_isNeeded_56 ki_0 ?_
    exact Y_zret (pc := 57) hC hE d_Ar_isNeeded_57 rfl h
  · have h := ifn cc_18 h
    refine Y_aload_n (pc := 21) hC d_Ar_isNeeded_21 rfl 1 rfl ?_
    refine Y_getR (pc := 22) hC sc_5 fl_Ar_22 rfl d_Ar_isNeeded_22 ?_
    refine Y_getR (pc := 25) hC sc_3 fl_Ar_76 rfl d_Ar_isNeeded_25 ?_
    refine Y_iload_n (pc := 28) hC d_Ar_isNeeded_28 rfl 2 rfl ?_
    obtain ⟨hi, h⟩ := ck_some h
    refine Y_iald (pc := 29) hC sc_23 rfl hi d_Ar_isNeeded_29 ?_
    refine Y_iconst (pc := 30) hC d_Ar_isNeeded_30 ki_2 ?_
    refine Y_icmp_eq (pc := 31) hC 56 d_Ar_isNeeded_31 rfl (fun cc_31 => ?_) (fun cc_31 => ?_)
    · have h := ifp cc_31 h
      refine Y_iconst (pc := 56) hC d_Ar_isNeeded_56 ki_0 ?_
      exact Y_zret (pc := 57) hC hE d_Ar_isNeeded_57 rfl h
    · have h := ifn cc_31 h
      refine Y_aload_n (pc := 34) hC d_Ar_isNeeded_34 rfl 1 rfl ?_
      refine Y_getR (pc := 35) hC sc_5 fl_Ar_9 rfl d_Ar_isNeeded_35 ?_
      refine Y_iload_n (pc := 38) hC d_Ar_isNeeded_38 rfl 0 rfl ?_
      obtain ⟨hi, h⟩ := ck_some h
      refine Y_zald (pc := 39) hC sc_35 rfl hi d_Ar_isNeeded_39 ?_
      refine Y_if_eq (pc := 40) hC 56 d_Ar_isNeeded_40 rfl (fun cc_40 => ?_) (fun cc_40 => ?_)
      · have h := ifp cc_40 h
        refine Y_iconst (pc := 56) hC d_Ar_isNeeded_56 ki_0 ?_
        exact Y_zret (pc := 57) hC hE d_Ar_isNeeded_57 rfl h
      · have h := ifn cc_40 h
        refine Y_aload_n (pc := 43) hC d_Ar_isNeeded_43 rfl 1 rfl ?_
        refine Y_getR (pc := 44) hC sc_5 fl_Ar_15 rfl d_Ar_isNeeded_44 ?_
        refine Y_iload_n (pc := 47) hC d_Ar_isNeeded_47 rfl 0 rfl ?_
        obtain ⟨hi, h⟩ := ck_some h
        refine Y_zald (pc := 48) hC sc_36 rfl hi d_Ar_isNeeded_48 ?_
        refine Y_if_ne (pc := 49) hC 56 d_Ar_isNeeded_49 rfl (fun cc_49 => ?_) (fun cc_49 => ?_)
        · have h := ifn cc_49 h
          refine Y_iconst (pc := 56) hC d_Ar_isNeeded_56 ki_0 ?_
          exact Y_zret (pc := 57) hC hE d_Ar_isNeeded_57 rfl h
        · have h := ifp cc_49 h
          refine Y_iconst (pc := 52) hC d_Ar_isNeeded_52 ki_1 ?_
          refine Y_goto (pc := 53) hC 57 d_Ar_isNeeded_53 rfl ?_
          exact Y_zret (pc := 57) hC hE d_Ar_isNeeded_57 rfl h
set_option maxHeartbeats 4000000 in
set_option maxRecDepth 100000 in
theorem ylp_Ar_firstNeeded_4 {C : YC} {r : Int32} {V' : Sto} {x1 : Int32} {k93 : Int32 → Sto → RT} (hC : YF C R_Ar b_Ar_firstNeeded 6 rm_Ar_firstNeeded) (hE : YEi C .int shpC r V') (hk93 : ∀ (y2 : Int32) (V1 : Sto), k93 y2 V1 = some (r, V') → Y C shpC 6 93 [(2, .int y2)] [] V1) : ∀ (n : Nat) (x2 x3 : Int32) (V : Sto), lp_Ar_firstNeeded_4 x1 k93 n x2 x3 V = some (r, V') → Y C shpC 6 4 [(0, .ref (C.a 5)), (1, .int x1), (2, .int x2), (3, .int x3)] [] V := by
  intro n
  induction n with
  | zero =>
    intro x2 x3 V h
    rw [lp_Ar_firstNeeded_4] at h
    cases h
  | succ n ih =>
    intro x2 x3 V h
    rw [lp_Ar_firstNeeded_4] at h
    refine Y_iload_n (pc := 4) hC d_Ar_firstNeeded_4 rfl 3 rfl ?_
    refine Y_aload_n (pc := 5) hC d_Ar_firstNeeded_5 rfl 0 rfl ?_
    refine Y_getR (pc := 6) hC sc_5 fl_Ar_22 rfl d_Ar_firstNeeded_6 ?_
    refine Y_getI (pc := 9) hC sc_3 fl_Ar_54 rfl d_Ar_firstNeeded_9 ?_
    refine Y_icmp_ge (pc := 12) hC 93 d_Ar_firstNeeded_12 rfl (fun cc_12 => ?_) (fun cc_12 => ?_)
    · have h := ifp cc_12 h
      refine Y_sub (pc := 93) [2] rfl ?_
      exact hk93 _ _ h
    · have h := ifn cc_12 h
      refine Y_aload_n (pc := 15) hC d_Ar_firstNeeded_15 rfl 0 rfl ?_
      refine Y_getR (pc := 16) hC sc_5 fl_Ar_22 rfl d_Ar_firstNeeded_16 ?_
      refine Y_getR (pc := 19) hC sc_3 fl_Ar_57 rfl d_Ar_firstNeeded_19 ?_
      refine Y_iload_n (pc := 22) hC d_Ar_firstNeeded_22 rfl 3 rfl ?_
      obtain ⟨hi, h⟩ := ck_some h
      refine Y_iald (pc := 23) hC sc_21 rfl hi d_Ar_firstNeeded_23 ?_
      refine Y_istore (pc := 24) hC (L' := [(4, .int (V 21 x3.toNatClampNeg)), (0, .ref (C.a 5)), (1, .int x1), (2, .int x2), (3, .int x3)]) d_Ar_firstNeeded_24 (by decide) rfl ?_
      refine Y_aload_n (pc := 26) hC d_Ar_firstNeeded_26 rfl 1 rfl ?_
      refine Y_getR (pc := 27) hC sc_5 fl_Ar_18 rfl d_Ar_firstNeeded_27 ?_
      refine Y_getR (pc := 30) hC sc_1 fl_Ar_43 rfl d_Ar_firstNeeded_30 ?_
      refine Y_iload (pc := 33) hC d_Ar_firstNeeded_33 0 rfl ?_
      obtain ⟨hi, h⟩ := ck_some h
      refine Y_iald (pc := 35) hC sc_12 rfl hi d_Ar_firstNeeded_35 ?_
      refine Y_iload_n (pc := 36) hC d_Ar_firstNeeded_36 rfl 2 rfl ?_
      obtain ⟨j1, hj1, h⟩ := jn_some h
      have kj1 : ∀ (z1 : Int32), j1 z1 = some (r, V') → Y C shpC 6 58 [(0, .ref (C.a 5)), (1, .int x1), (2, .int x2), (3, .int x3), (4, .int (V 21 x3.toNatClampNeg))] [.int z1] V := by
        intro z1 h
        subst hj1
        dsimp only at h
        refine Y_istore (pc := 58) hC (L' := [(5, .int z1), (0, .ref (C.a 5)), (1, .int x1), (2, .int x2), (3, .int x3), (4, .int (V 21 x3.toNatClampNeg))]) d_Ar_firstNeeded_58 (by decide) rfl ?_
        refine Y_iload (pc := 60) hC d_Ar_firstNeeded_60 0 rfl ?_
        refine Y_if_eq (pc := 62) hC 87 d_Ar_firstNeeded_62 rfl (fun cc_62 => ?_) (fun cc_62 => ?_)
        · have h := ifp cc_62 h
          refine Y_iinc (pc := 87) hC (v := x3 + 1) (L' := [(3, .int (x3 + 1)), (5, .int z1), (0, .ref (C.a 5)), (1, .int x1), (2, .int x2), (4, .int (V 21 x3.toNatClampNeg))]) d_Ar_firstNeeded_87 4 rfl rfl (by decide) rfl ?_
          refine Y_goto (pc := 90) hC 4 d_Ar_firstNeeded_90 rfl ?_
          refine Y_sub (pc := 4) [2, 3, 4, 0] rfl ?_
          exact ih _ _ _ h
        · have h := ifn cc_62 h
          refine Y_aload_n (pc := 65) hC d_Ar_firstNeeded_65 rfl 1 rfl ?_
          refine Y_iload_n (pc := 66) hC d_Ar_firstNeeded_66 rfl 4 rfl ?_
          obtain ⟨r1, V1, hc_r1, h⟩ := cl_some h
          refine Y_callV (pc := 67) hC (c_Ar_isNeeded C.l C.D C.cI C.cZ C.a hc_r1) (fun q => nomatch q) sc_5 cls_Ar ml_Ar_73 mv_Ar_isNeeded (by decide) (Nat.le_of_ble_eq_true rfl) rfl d_Ar_firstNeeded_67 ?_
          refine Y_if_eq (pc := 70) hC 87 d_Ar_firstNeeded_70 rfl (fun cc_70 => ?_) (fun cc_70 => ?_)
          · have h := ifp cc_70 h
            refine Y_iinc (pc := 87) hC (v := x3 + 1) (L' := [(3, .int (x3 + 1)), (5, .int z1), (0, .ref (C.a 5)), (1, .int x1), (2, .int x2), (4, .int (V 21 x3.toNatClampNeg))]) d_Ar_firstNeeded_87 4 rfl rfl (by decide) rfl ?_
            refine Y_goto (pc := 90) hC 4 d_Ar_firstNeeded_90 rfl ?_
            refine Y_sub (pc := 4) [2, 3, 4, 0] rfl ?_
            exact ih _ _ _ h
          · have h := ifn cc_70 h
            refine Y_iload_n (pc := 73) hC d_Ar_firstNeeded_73 rfl 3 rfl ?_
            refine Y_iconst (pc := 74) hC d_Ar_firstNeeded_74 ki_m1 ?_
            refine Y_icmp_eq (pc := 75) hC 84 d_Ar_firstNeeded_75 rfl (fun cc_75 => ?_) (fun cc_75 => ?_)
            · have h := ifp cc_75 h
              refine Y_iload (pc := 84) hC d_Ar_firstNeeded_84 5 rfl ?_
              refine Y_istore_n (pc := 86) hC (L' := [(2, .int (V 21 x3.toNatClampNeg)), (5, .int z1), (0, .ref (C.a 5)), (1, .int x1), (3, .int x3), (4, .int (V 21 x3.toNatClampNeg))]) d_Ar_firstNeeded_86 rfl (by decide) rfl ?_
              refine Y_iinc (pc := 87) hC (v := x3 + 1) (L' := [(3, .int (x3 + 1)), (2, .int (V 21 x3.toNatClampNeg)), (5, .int z1), (0, .ref (C.a 5)), (1, .int x1), (4, .int (V 21 x3.toNatClampNeg))]) d_Ar_firstNeeded_87 4 rfl rfl (by decide) rfl ?_
              refine Y_goto (pc := 90) hC 4 d_Ar_firstNeeded_90 rfl ?_
              refine Y_sub (pc := 4) [3, 4, 1, 0] rfl ?_
              exact ih _ _ _ h
            · have h := ifn cc_75 h
              refine Y_iload (pc := 78) hC d_Ar_firstNeeded_78 5 rfl ?_
              refine Y_iload_n (pc := 80) hC d_Ar_firstNeeded_80 rfl 3 rfl ?_
              refine Y_icmp_ge (pc := 81) hC 87 d_Ar_firstNeeded_81 rfl (fun cc_81 => ?_) (fun cc_81 => ?_)
              · have h := ifp cc_81 h
                refine Y_iinc (pc := 87) hC (v := x3 + 1) (L' := [(3, .int (x3 + 1)), (5, .int z1), (0, .ref (C.a 5)), (1, .int x1), (2, .int x2), (4, .int (V 21 x3.toNatClampNeg))]) d_Ar_firstNeeded_87 4 rfl rfl (by decide) rfl ?_
                refine Y_goto (pc := 90) hC 4 d_Ar_firstNeeded_90 rfl ?_
                refine Y_sub (pc := 4) [2, 3, 4, 0] rfl ?_
                exact ih _ _ _ h
              · have h := ifn cc_81 h
                refine Y_iload (pc := 84) hC d_Ar_firstNeeded_84 5 rfl ?_
                refine Y_istore_n (pc := 86) hC (L' := [(2, .int (V 21 x3.toNatClampNeg)), (5, .int z1), (0, .ref (C.a 5)), (1, .int x1), (3, .int x3), (4, .int (V 21 x3.toNatClampNeg))]) d_Ar_firstNeeded_86 rfl (by decide) rfl ?_
                refine Y_iinc (pc := 87) hC (v := x3 + 1) (L' := [(3, .int (x3 + 1)), (2, .int (V 21 x3.toNatClampNeg)), (5, .int z1), (0, .ref (C.a 5)), (1, .int x1), (4, .int (V 21 x3.toNatClampNeg))]) d_Ar_firstNeeded_87 4 rfl rfl (by decide) rfl ?_
                refine Y_goto (pc := 90) hC 4 d_Ar_firstNeeded_90 rfl ?_
                refine Y_sub (pc := 4) [3, 4, 1, 0] rfl ?_
                exact ih _ _ _ h
      refine Y_icmp_ne (pc := 37) hC 57 d_Ar_firstNeeded_37 rfl (fun cc_37 => ?_) (fun cc_37 => ?_)
      · have h := ifn cc_37 h
        refine Y_iconst (pc := 57) hC d_Ar_firstNeeded_57 ki_0 ?_
        refine Y_sub (pc := 58) [1, 2, 3, 4, 0] rfl ?_
        exact kj1 _ h
      · have h := ifp cc_37 h
        refine Y_aload_n (pc := 40) hC d_Ar_firstNeeded_40 rfl 1 rfl ?_
        refine Y_getR (pc := 41) hC sc_5 fl_Ar_18 rfl d_Ar_firstNeeded_41 ?_
        refine Y_getR (pc := 44) hC sc_1 fl_Ar_40 rfl d_Ar_firstNeeded_44 ?_
        refine Y_iload (pc := 47) hC d_Ar_firstNeeded_47 0 rfl ?_
        obtain ⟨hi, h⟩ := ck_some h
        refine Y_zald (pc := 49) hC sc_13 rfl hi d_Ar_firstNeeded_49 ?_
        refine Y_if_ne (pc := 50) hC 57 d_Ar_firstNeeded_50 rfl (fun cc_50 => ?_) (fun cc_50 => ?_)
        · have h := ifn cc_50 h
          refine Y_iconst (pc := 57) hC d_Ar_firstNeeded_57 ki_0 ?_
          refine Y_sub (pc := 58) [1, 2, 3, 4, 0] rfl ?_
          exact kj1 _ h
        · have h := ifp cc_50 h
          refine Y_iconst (pc := 53) hC d_Ar_firstNeeded_53 ki_1 ?_
          refine Y_goto (pc := 54) hC 58 d_Ar_firstNeeded_54 rfl ?_
          refine Y_sub (pc := 58) [1, 2, 3, 4, 0] rfl ?_
          exact kj1 _ h
set_option maxHeartbeats 4000000 in
set_option maxRecDepth 100000 in
theorem c_Ar_firstNeeded (l : Launch) (D : va_G) (cI cZ : ClassId) (a : Nat → Nat) {V : Sto} {p1 : Int32} {r : Int32} {V' : Sto} (h : f_Ar_firstNeeded V p1 = some (r, V')) : YMi l D cI cZ a shpC y_Ar_firstNeeded b_Ar_firstNeeded 6 (some .int) rm_Ar_firstNeeded false [.ref (a 5), .int p1] V r V' := by
  refine YMi_of (by decide) (Nat.le_of_ble_eq_true rfl) ?_
  intro C hl hDD hcI hcZ ha hC hw hE
  subst hl hDD hcI hcZ ha
  show Y C shpC 6 0 [(0, .ref (C.a 5)), (1, .int p1)] [] V
  rw [f_Ar_firstNeeded] at h
  refine Y_iconst (pc := 0) hC d_Ar_firstNeeded_0 ki_m1 ?_
  refine Y_istore_n (pc := 1) hC (L' := [(2, .int (-1)), (0, .ref (C.a 5)), (1, .int p1)]) d_Ar_firstNeeded_1 rfl (by decide) rfl ?_
  refine Y_iconst (pc := 2) hC d_Ar_firstNeeded_2 ki_0 ?_
  refine Y_istore_n (pc := 3) hC (L' := [(3, .int 0), (2, .int (-1)), (0, .ref (C.a 5)), (1, .int p1)]) d_Ar_firstNeeded_3 rfl (by decide) rfl ?_
  refine Y_sub (pc := 4) [2, 3, 1, 0] rfl ?_
  refine ylp_Ar_firstNeeded_4 hC hE (fun y1 V2 h => ?_) FU _ _ _ h
  refine Y_iload_n (pc := 93) hC d_Ar_firstNeeded_93 rfl 0 rfl ?_
  exact Y_iret (pc := 94) hC hE d_Ar_firstNeeded_94 h
set_option maxHeartbeats 4000000 in
set_option maxRecDepth 100000 in
theorem ylp_Ar_goThroughArchives_11 {C : YC} {r : Int32} {V' : Sto} {x2 : Int32} {k47 : Int32 → Sto → RT} (hC : YF C R_Ar b_Ar_goThroughArchives 5 rm_Ar_goThroughArchives) (hw : YWr C shpC) (hE : YEi C .boolean shpC r V') (hk47 : ∀ (y1 : Int32) (V1 : Sto), k47 y1 V1 = some (r, V') → Y C shpC 5 47 [(0, .ref (C.a 5)), (2, .int x2), (1, .int y1)] [] V1) : ∀ (n : Nat) (x1 x3 : Int32) (V : Sto), lp_Ar_goThroughArchives_11 x2 k47 n x1 x3 V = some (r, V') → Y C shpC 5 11 [(0, .ref (C.a 5)), (1, .int x1), (2, .int x2), (3, .int x3)] [] V := by
  intro n
  induction n with
  | zero =>
    intro x1 x3 V h
    rw [lp_Ar_goThroughArchives_11] at h
    cases h
  | succ n ih =>
    intro x1 x3 V h
    rw [lp_Ar_goThroughArchives_11] at h
    refine Y_iload_n (pc := 11) hC d_Ar_goThroughArchives_11 rfl 3 rfl ?_
    refine Y_bipush (pc := 12) hC d_Ar_goThroughArchives_12 kb_24 ?_
    refine Y_icmp_ge (pc := 14) hC 47 d_Ar_goThroughArchives_14 rfl (fun cc_14 => ?_) (fun cc_14 => ?_)
    · have h := ifp cc_14 h
      refine Y_sub (pc := 47) [0, 2, 1] rfl ?_
      exact hk47 _ _ h
    · have h := ifn cc_14 h
      refine Y_aload_n (pc := 17) hC d_Ar_goThroughArchives_17 rfl 0 rfl ?_
      refine Y_iload_n (pc := 18) hC d_Ar_goThroughArchives_18 rfl 2 rfl ?_
      obtain ⟨r1, V1, hc_r1, h⟩ := cl_some h
      refine Y_callV (pc := 19) hC (c_Ar_firstNeeded C.l C.D C.cI C.cZ C.a hc_r1) (fun q => nomatch q) sc_5 cls_Ar ml_Ar_50 mv_Ar_firstNeeded (by decide) (Nat.le_of_ble_eq_true rfl) rfl d_Ar_goThroughArchives_19 ?_
      refine Y_istore (pc := 22) hC (L' := [(4, .int r1), (0, .ref (C.a 5)), (1, .int x1), (2, .int x2), (3, .int x3)]) d_Ar_goThroughArchives_22 (by decide) rfl ?_
      refine Y_iload (pc := 24) hC d_Ar_goThroughArchives_24 0 rfl ?_
      refine Y_iconst (pc := 26) hC d_Ar_goThroughArchives_26 ki_m1 ?_
      refine Y_icmp_ne (pc := 27) hC 33 d_Ar_goThroughArchives_27 rfl (fun cc_27 => ?_) (fun cc_27 => ?_)
      · have h := ifn cc_27 h
        refine Y_aload_n (pc := 33) hC d_Ar_goThroughArchives_33 rfl 1 rfl ?_
        refine Y_iload (pc := 34) hC d_Ar_goThroughArchives_34 0 rfl ?_
        obtain ⟨r2, V2, hc_r2, h⟩ := cl_some h
        refine Y_callVv (pc := 36) hC (c_Ar_admit C.l C.D C.cI C.cZ C.a hc_r2) (fun _ => hw) sc_5 cls_Ar ml_Ar_47 mv_Ar_admit (by decide) (Nat.le_of_ble_eq_true rfl) rfl d_Ar_goThroughArchives_36 ?_
        refine Y_iconst (pc := 39) hC d_Ar_goThroughArchives_39 ki_1 ?_
        refine Y_istore_n (pc := 40) hC (L' := [(1, .int 1), (4, .int r1), (0, .ref (C.a 5)), (2, .int x2), (3, .int x3)]) d_Ar_goThroughArchives_40 rfl (by decide) rfl ?_
        refine Y_iinc (pc := 41) hC (v := x3 + 1) (L' := [(3, .int (x3 + 1)), (1, .int 1), (4, .int r1), (0, .ref (C.a 5)), (2, .int x2)]) d_Ar_goThroughArchives_41 4 rfl rfl (by decide) rfl ?_
        refine Y_goto (pc := 44) hC 11 d_Ar_goThroughArchives_44 rfl ?_
        refine Y_sub (pc := 11) [3, 1, 4, 0] rfl ?_
        exact ih _ _ _ h
      · have h := ifp cc_27 h
        refine Y_goto (pc := 30) hC 47 d_Ar_goThroughArchives_30 rfl ?_
        refine Y_sub (pc := 47) [1, 3, 2] rfl ?_
        exact hk47 _ _ h
set_option maxHeartbeats 4000000 in
set_option maxRecDepth 100000 in
theorem ylp_Ar_goThroughArchives_4 {C : YC} {r : Int32} {V' : Sto} {k53 : Int32 → Sto → RT} (hC : YF C R_Ar b_Ar_goThroughArchives 5 rm_Ar_goThroughArchives) (hw : YWr C shpC) (hE : YEi C .boolean shpC r V') (hk53 : ∀ (y1 : Int32) (V1 : Sto), k53 y1 V1 = some (r, V') → Y C shpC 5 53 [(1, .int y1)] [] V1) : ∀ (n : Nat) (x1 x2 : Int32) (V : Sto), lp_Ar_goThroughArchives_4 k53 n x1 x2 V = some (r, V') → Y C shpC 5 4 [(0, .ref (C.a 5)), (1, .int x1), (2, .int x2)] [] V := by
  intro n
  induction n with
  | zero =>
    intro x1 x2 V h
    rw [lp_Ar_goThroughArchives_4] at h
    cases h
  | succ n ih =>
    intro x1 x2 V h
    rw [lp_Ar_goThroughArchives_4] at h
    refine Y_iload_n (pc := 4) hC d_Ar_goThroughArchives_4 rfl 2 rfl ?_
    refine Y_iconst (pc := 5) hC d_Ar_goThroughArchives_5 ki_4 ?_
    refine Y_icmp_ge (pc := 6) hC 53 d_Ar_goThroughArchives_6 rfl (fun cc_6 => ?_) (fun cc_6 => ?_)
    · have h := ifp cc_6 h
      refine Y_sub (pc := 53) [1] rfl ?_
      exact hk53 _ _ h
    · have h := ifn cc_6 h
      refine Y_iconst (pc := 9) hC d_Ar_goThroughArchives_9 ki_0 ?_
      refine Y_istore_n (pc := 10) hC (L' := [(3, .int 0), (0, .ref (C.a 5)), (1, .int x1), (2, .int x2)]) d_Ar_goThroughArchives_10 rfl (by decide) rfl ?_
      refine Y_sub (pc := 11) [1, 2, 3, 0] rfl ?_
      refine ylp_Ar_goThroughArchives_11 hC hw hE (fun y1 V3 h => ?_) FU _ _ _ h
      refine Y_iinc (pc := 47) hC (v := x2 + 1) (L' := [(2, .int (x2 + 1)), (0, .ref (C.a 5)), (1, .int y1)]) d_Ar_goThroughArchives_47 1 rfl rfl (by decide) rfl ?_
      refine Y_goto (pc := 50) hC 4 d_Ar_goThroughArchives_50 rfl ?_
      refine Y_sub (pc := 4) [1, 2, 0] rfl ?_
      exact ih _ _ _ h
set_option maxHeartbeats 4000000 in
set_option maxRecDepth 100000 in
theorem c_Ar_goThroughArchives (l : Launch) (D : va_G) (cI cZ : ClassId) (a : Nat → Nat) {V : Sto} {r : Int32} {V' : Sto} (h : f_Ar_goThroughArchives V = some (r, V')) : YMi l D cI cZ a shpC y_Ar_goThroughArchives b_Ar_goThroughArchives 5 (some .boolean) rm_Ar_goThroughArchives true [.ref (a 5)] V r V' := by
  refine YMi_of (by decide) (Nat.le_of_ble_eq_true rfl) ?_
  intro C hl hDD hcI hcZ ha hC hw hE
  subst hl hDD hcI hcZ ha
  show Y C shpC 5 0 [(0, .ref (C.a 5))] [] V
  have hw := hw rfl
  rw [f_Ar_goThroughArchives] at h
  refine Y_iconst (pc := 0) hC d_Ar_goThroughArchives_0 ki_0 ?_
  refine Y_istore_n (pc := 1) hC (L' := [(1, .int 0), (0, .ref (C.a 5))]) d_Ar_goThroughArchives_1 rfl (by decide) rfl ?_
  refine Y_iconst (pc := 2) hC d_Ar_goThroughArchives_2 ki_0 ?_
  refine Y_istore_n (pc := 3) hC (L' := [(2, .int 0), (1, .int 0), (0, .ref (C.a 5))]) d_Ar_goThroughArchives_3 rfl (by decide) rfl ?_
  refine Y_sub (pc := 4) [2, 1, 0] rfl ?_
  refine ylp_Ar_goThroughArchives_4 hC hw hE (fun y2 V4 h => ?_) FU _ _ _ h
  refine Y_iload_n (pc := 53) hC d_Ar_goThroughArchives_53 rfl 0 rfl ?_
  obtain ⟨hbb, h⟩ := ck_some h
  exact Y_zret (pc := 54) hC hE d_Ar_goThroughArchives_54 hbb h
set_option maxHeartbeats 4000000 in
set_option maxRecDepth 100000 in
theorem ylp_Ar_bringIn_19 {C : YC} {r : Int32} {V' : Sto} {x3 : Int32} {k41 : Sto → RT} (hC : YF C R_Ar b_Ar_bringIn 5 rm_Ar_bringIn) (hw : YWr C shpC) (hE : YEv C shpC V') (hk41 : ∀ (V1 : Sto), k41 V1 = some (r, V') → Y C shpC 5 41 [] [] V1) : ∀ (n : Nat) (x4 : Int32) (V : Sto), lp_Ar_bringIn_19 x3 k41 n x4 V = some (r, V') → Y C shpC 5 19 [(0, .ref (C.a 5)), (3, .int x3), (4, .int x4)] [] V := by
  intro n
  induction n with
  | zero =>
    intro x4 V h
    rw [lp_Ar_bringIn_19] at h
    cases h
  | succ n ih =>
    intro x4 V h
    rw [lp_Ar_bringIn_19] at h
    refine Y_iload (pc := 19) hC d_Ar_bringIn_19 2 rfl ?_
    refine Y_iload_n (pc := 21) hC d_Ar_bringIn_21 rfl 1 rfl ?_
    refine Y_icmp_ge (pc := 22) hC 41 d_Ar_bringIn_22 rfl (fun cc_22 => ?_) (fun cc_22 => ?_)
    · have h := ifp cc_22 h
      refine Y_sub (pc := 41) [] rfl ?_
      exact hk41 _ h
    · have h := ifn cc_22 h
      refine Y_aload_n (pc := 25) hC d_Ar_bringIn_25 rfl 0 rfl ?_
      obtain ⟨r2, V2, hc_r2, h⟩ := cl_some h
      refine Y_callV (pc := 26) hC (c_Ar_goThroughArchives C.l C.D C.cI C.cZ C.a hc_r2) (fun _ => hw) sc_5 cls_Ar ml_Ar_30 mv_Ar_goThroughArchives (by decide) (Nat.le_of_ble_eq_true rfl) rfl d_Ar_bringIn_26 ?_
      refine Y_if_ne (pc := 29) hC 35 d_Ar_bringIn_29 rfl (fun cc_29 => ?_) (fun cc_29 => ?_)
      · have h := ifn cc_29 h
        refine Y_iinc (pc := 35) hC (v := x4 + 1) (L' := [(4, .int (x4 + 1)), (0, .ref (C.a 5)), (3, .int x3)]) d_Ar_bringIn_35 2 rfl rfl (by decide) rfl ?_
        refine Y_goto (pc := 38) hC 19 d_Ar_bringIn_38 rfl ?_
        refine Y_sub (pc := 19) [1, 2, 0] rfl ?_
        exact ih _ _ h
      · have h := ifp cc_29 h
        refine Y_goto (pc := 32) hC 41 d_Ar_bringIn_32 rfl ?_
        refine Y_sub (pc := 41) [] rfl ?_
        exact hk41 _ h
set_option maxHeartbeats 4000000 in
set_option maxRecDepth 100000 in
theorem c_Ar_bringIn (l : Launch) (D : va_G) (cI cZ : ClassId) (a : Nat → Nat) {V : Sto} {p1 : Int32} {p2 : Int32} {r : Int32} {V' : Sto} (h : f_Ar_bringIn V p1 p2 = some (r, V')) : YMv l D cI cZ a shpC y_Ar_bringIn b_Ar_bringIn 5 rm_Ar_bringIn true [.ref (a 5), .int p1, .int p2] V V' := by
  refine YMv_of (by decide) (Nat.le_of_ble_eq_true rfl) ?_
  intro C hl hDD hcI hcZ ha hC hw hE
  subst hl hDD hcI hcZ ha
  show Y C shpC 5 0 [(0, .ref (C.a 5)), (1, .int p1), (2, .int p2)] [] V
  have hw := hw rfl
  rw [f_Ar_bringIn] at h
  refine Y_aload_n (pc := 0) hC d_Ar_bringIn_0 rfl 0 rfl ?_
  refine Y_iload_n (pc := 1) hC d_Ar_bringIn_1 rfl 1 rfl ?_
  obtain ⟨r1, V1, hc_r1, h⟩ := cl_some h
  refine Y_callVv (pc := 2) hC (c_Ar_begin C.l C.D C.cI C.cZ C.a hc_r1) (fun _ => hw) sc_5 cls_Ar ml_Ar_26 mv_Ar_begin (by decide) (Nat.le_of_ble_eq_true rfl) rfl d_Ar_bringIn_2 ?_
  refine Y_iload_n (pc := 5) hC d_Ar_bringIn_5 rfl 2 rfl ?_
  obtain ⟨j1, hj1, h⟩ := jn_some h
  have kj1 : ∀ (z1 : Int32), j1 z1 = some (r, V') → Y C shpC 5 15 [(0, .ref (C.a 5))] [.int z1] V1 := by
    intro z1 h
    subst hj1
    dsimp only at h
    refine Y_istore_n (pc := 15) hC (L' := [(3, .int z1), (0, .ref (C.a 5))]) d_Ar_bringIn_15 rfl (by decide) rfl ?_
    refine Y_iconst (pc := 16) hC d_Ar_bringIn_16 ki_0 ?_
    refine Y_istore (pc := 17) hC (L' := [(4, .int 0), (3, .int z1), (0, .ref (C.a 5))]) d_Ar_bringIn_17 (by decide) rfl ?_
    refine Y_sub (pc := 19) [2, 1, 0] rfl ?_
    refine ylp_Ar_bringIn_19 hC hw hE (fun V3 h => ?_) FU _ _ h
    exact Y_vret (pc := 41) hC hE d_Ar_bringIn_41 h
  refine Y_if_eq (pc := 6) hC 14 d_Ar_bringIn_6 rfl (fun cc_6 => ?_) (fun cc_6 => ?_)
  · have h := ifp cc_6 h
    refine Y_iconst (pc := 14) hC d_Ar_bringIn_14 ki_1 ?_
    refine Y_sub (pc := 15) [0] rfl ?_
    exact kj1 _ h
  · have h := ifn cc_6 h
    refine Y_bipush (pc := 9) hC d_Ar_bringIn_9 kb_25 ?_
    refine Y_goto (pc := 11) hC 15 d_Ar_bringIn_11 rfl ?_
    refine Y_sub (pc := 15) [0] rfl ?_
    exact kj1 _ h
set_option maxHeartbeats 4000000 in
set_option maxRecDepth 100000 in
theorem c_Na_isCommon (l : Launch) (D : va_G) (cI cZ : ClassId) (a : Nat → Nat) {V : Sto} {p1 : Int32} {r : Int32} {V' : Sto} (h : f_Na_isCommon V p1 = some (r, V')) : YMi l D cI cZ a shpC y_Na_isCommon b_Na_isCommon 2 (some .boolean) rm_Na_isCommon false [.ref (a 6), .int p1] V r V' := by
  refine YMi_of (by decide) (Nat.le_of_ble_eq_true rfl) ?_
  intro C hl hDD hcI hcZ ha hC hw hE
  subst hl hDD hcI hcZ ha
  show Y C shpC 2 0 [(0, .ref (C.a 6)), (1, .int p1)] [] V
  rw [f_Na_isCommon] at h
  refine Y_aload_n (pc := 0) hC d_Na_isCommon_0 rfl 0 rfl ?_
  refine Y_getR (pc := 1) hC sc_6 fl_Na_9 rfl d_Na_isCommon_1 ?_
  refine Y_iload_n (pc := 4) hC d_Na_isCommon_4 rfl 1 rfl ?_
  obtain ⟨hi, h⟩ := ck_some h
  refine Y_iald (pc := 5) hC sc_37 rfl hi d_Na_isCommon_5 ?_
  refine Y_iconst (pc := 6) hC d_Na_isCommon_6 ki_m1 ?_
  refine Y_icmp_ne (pc := 7) hC 23 d_Na_isCommon_7 rfl (fun cc_7 => ?_) (fun cc_7 => ?_)
  · have h := ifn cc_7 h
    refine Y_iconst (pc := 23) hC d_Na_isCommon_23 ki_0 ?_
    exact Y_zret (pc := 24) hC hE d_Na_isCommon_24 rfl h
  · have h := ifp cc_7 h
    refine Y_aload_n (pc := 10) hC d_Na_isCommon_10 rfl 0 rfl ?_
    refine Y_getR (pc := 11) hC sc_6 fl_Na_18 rfl d_Na_isCommon_11 ?_
    refine Y_iload_n (pc := 14) hC d_Na_isCommon_14 rfl 1 rfl ?_
    obtain ⟨hi, h⟩ := ck_some h
    refine Y_iald (pc := 15) hC sc_39 rfl hi d_Na_isCommon_15 ?_
    refine Y_if_le (pc := 16) hC 23 d_Na_isCommon_16 rfl (fun cc_16 => ?_) (fun cc_16 => ?_)
    · have h := ifp cc_16 h
      refine Y_iconst (pc := 23) hC d_Na_isCommon_23 ki_0 ?_
      exact Y_zret (pc := 24) hC hE d_Na_isCommon_24 rfl h
    · have h := ifn cc_16 h
      refine Y_iconst (pc := 19) hC d_Na_isCommon_19 ki_1 ?_
      refine Y_goto (pc := 20) hC 24 d_Na_isCommon_20 rfl ?_
      exact Y_zret (pc := 24) hC hE d_Na_isCommon_24 rfl h
set_option maxHeartbeats 4000000 in
set_option maxRecDepth 100000 in
theorem c_Na_definer (l : Launch) (D : va_G) (cI cZ : ClassId) (a : Nat → Nat) {V : Sto} {p1 : Int32} {r : Int32} {V' : Sto} (h : f_Na_definer V p1 = some (r, V')) : YMi l D cI cZ a shpC y_Na_definer b_Na_definer 2 (some .int) rm_Na_definer false [.ref (a 6), .int p1] V r V' := by
  refine YMi_of (by decide) (Nat.le_of_ble_eq_true rfl) ?_
  intro C hl hDD hcI hcZ ha hC hw hE
  subst hl hDD hcI hcZ ha
  show Y C shpC 2 0 [(0, .ref (C.a 6)), (1, .int p1)] [] V
  rw [f_Na_definer] at h
  refine Y_aload_n (pc := 0) hC d_Na_definer_0 rfl 0 rfl ?_
  refine Y_getR (pc := 1) hC sc_6 fl_Na_9 rfl d_Na_definer_1 ?_
  refine Y_iload_n (pc := 4) hC d_Na_definer_4 rfl 1 rfl ?_
  obtain ⟨hi, h⟩ := ck_some h
  refine Y_iald (pc := 5) hC sc_37 rfl hi d_Na_definer_5 ?_
  refine Y_iconst (pc := 6) hC d_Na_definer_6 ki_m1 ?_
  refine Y_icmp_eq (pc := 7) hC 17 d_Na_definer_7 rfl (fun cc_7 => ?_) (fun cc_7 => ?_)
  · have h := ifp cc_7 h
    refine Y_aload_n (pc := 17) hC d_Na_definer_17 rfl 0 rfl ?_
    refine Y_iload_n (pc := 18) hC d_Na_definer_18 rfl 1 rfl ?_
    obtain ⟨r1, V1, hc_r1, h⟩ := cl_some h
    refine Y_callV (pc := 19) hC (c_Na_isCommon C.l C.D C.cI C.cZ C.a hc_r1) (fun q => nomatch q) sc_6 cls_Na ml_Na_93 mv_Na_isCommon (by decide) (Nat.le_of_ble_eq_true rfl) rfl d_Na_definer_19 ?_
    refine Y_if_eq (pc := 22) hC 29 d_Na_definer_22 rfl (fun cc_22 => ?_) (fun cc_22 => ?_)
    · have h := ifp cc_22 h
      refine Y_aload_n (pc := 29) hC d_Na_definer_29 rfl 0 rfl ?_
      refine Y_getR (pc := 30) hC sc_6 fl_Na_15 rfl d_Na_definer_30 ?_
      refine Y_iload_n (pc := 33) hC d_Na_definer_33 rfl 1 rfl ?_
      obtain ⟨hi, h⟩ := ck_some h
      refine Y_iald (pc := 34) hC sc_38 rfl hi d_Na_definer_34 ?_
      exact Y_iret (pc := 35) hC hE d_Na_definer_35 h
    · have h := ifn cc_22 h
      refine Y_iconst (pc := 25) hC d_Na_definer_25 ki_m1 ?_
      refine Y_goto (pc := 26) hC 35 d_Na_definer_26 rfl ?_
      exact Y_iret (pc := 35) hC hE d_Na_definer_35 h
  · have h := ifn cc_7 h
    refine Y_aload_n (pc := 10) hC d_Na_definer_10 rfl 0 rfl ?_
    refine Y_getR (pc := 11) hC sc_6 fl_Na_9 rfl d_Na_definer_11 ?_
    refine Y_iload_n (pc := 14) hC d_Na_definer_14 rfl 1 rfl ?_
    obtain ⟨hi, h⟩ := ck_some h
    refine Y_iald (pc := 15) hC sc_37 rfl hi d_Na_definer_15 ?_
    exact Y_iret (pc := 16) hC hE d_Na_definer_16 h
set_option maxHeartbeats 4000000 in
set_option maxRecDepth 100000 in
theorem c_Na_isDefined (l : Launch) (D : va_G) (cI cZ : ClassId) (a : Nat → Nat) {V : Sto} {p1 : Int32} {r : Int32} {V' : Sto} (h : f_Na_isDefined V p1 = some (r, V')) : YMi l D cI cZ a shpC y_Na_isDefined b_Na_isDefined 2 (some .boolean) rm_Na_isDefined false [.ref (a 6), .int p1] V r V' := by
  refine YMi_of (by decide) (Nat.le_of_ble_eq_true rfl) ?_
  intro C hl hDD hcI hcZ ha hC hw hE
  subst hl hDD hcI hcZ ha
  show Y C shpC 2 0 [(0, .ref (C.a 6)), (1, .int p1)] [] V
  rw [f_Na_isDefined] at h
  refine Y_aload_n (pc := 0) hC d_Na_isDefined_0 rfl 0 rfl ?_
  refine Y_iload_n (pc := 1) hC d_Na_isDefined_1 rfl 1 rfl ?_
  obtain ⟨r1, V1, hc_r1, h⟩ := cl_some h
  refine Y_callV (pc := 2) hC (c_Na_isCommon C.l C.D C.cI C.cZ C.a hc_r1) (fun q => nomatch q) sc_6 cls_Na ml_Na_93 mv_Na_isCommon (by decide) (Nat.le_of_ble_eq_true rfl) rfl d_Na_isDefined_2 ?_
  refine Y_if_ne (pc := 5) hC 17 d_Na_isDefined_5 rfl (fun cc_5 => ?_) (fun cc_5 => ?_)
  · have h := ifn cc_5 h
    refine Y_iconst (pc := 17) hC d_Na_isDefined_17 ki_1 ?_
    refine Y_goto (pc := 18) hC 22 d_Na_isDefined_18 rfl ?_
    exact Y_zret (pc := 22) hC hE d_Na_isDefined_22 rfl h
  · have h := ifp cc_5 h
    refine Y_aload_n (pc := 8) hC d_Na_isDefined_8 rfl 0 rfl ?_
    refine Y_iload_n (pc := 9) hC d_Na_isDefined_9 rfl 1 rfl ?_
    obtain ⟨r2, V2, hc_r2, h⟩ := cl_some h
    refine Y_callV (pc := 10) hC (c_Na_definer C.l C.D C.cI C.cZ C.a hc_r2) (fun q => nomatch q) sc_6 cls_Na ml_Na_96 mv_Na_definer (by decide) (Nat.le_of_ble_eq_true rfl) rfl d_Na_isDefined_10 ?_
    refine Y_iconst (pc := 13) hC d_Na_isDefined_13 ki_m1 ?_
    refine Y_icmp_eq (pc := 14) hC 21 d_Na_isDefined_14 rfl (fun cc_14 => ?_) (fun cc_14 => ?_)
    · have h := ifp cc_14 h
      refine Y_iconst (pc := 21) hC d_Na_isDefined_21 ki_0 ?_
      exact Y_zret (pc := 22) hC hE d_Na_isDefined_22 rfl h
    · have h := ifn cc_14 h
      refine Y_iconst (pc := 17) hC d_Na_isDefined_17 ki_1 ?_
      refine Y_goto (pc := 18) hC 22 d_Na_isDefined_18 rfl ?_
      exact Y_zret (pc := 22) hC hE d_Na_isDefined_22 rfl h
set_option maxHeartbeats 4000000 in
set_option maxRecDepth 100000 in
theorem c_Na_sectionOf (l : Launch) (D : va_G) (cI cZ : ClassId) (a : Nat → Nat) {V : Sto} {p1 : Int32} {r : Int32} {V' : Sto} (h : f_Na_sectionOf V p1 = some (r, V')) : YMi l D cI cZ a shpC y_Na_sectionOf b_Na_sectionOf 3 (some .int) rm_Na_sectionOf false [.ref (a 6), .int p1] V r V' := by
  refine YMi_of (by decide) (Nat.le_of_ble_eq_true rfl) ?_
  intro C hl hDD hcI hcZ ha hC hw hE
  subst hl hDD hcI hcZ ha
  show Y C shpC 3 0 [(0, .ref (C.a 6)), (1, .int p1)] [] V
  rw [f_Na_sectionOf] at h
  refine Y_aload_n (pc := 0) hC d_Na_sectionOf_0 rfl 0 rfl ?_
  refine Y_iload_n (pc := 1) hC d_Na_sectionOf_1 rfl 1 rfl ?_
  obtain ⟨r1, V1, hc_r1, h⟩ := cl_some h
  refine Y_callV (pc := 2) hC (c_Na_definer C.l C.D C.cI C.cZ C.a hc_r1) (fun q => nomatch q) sc_6 cls_Na ml_Na_96 mv_Na_definer (by decide) (Nat.le_of_ble_eq_true rfl) rfl d_Na_sectionOf_2 ?_
  refine Y_istore_n (pc := 5) hC (L' := [(2, .int r1), (0, .ref (C.a 6)), (1, .int p1)]) d_Na_sectionOf_5 rfl (by decide) rfl ?_
  refine Y_iload_n (pc := 6) hC d_Na_sectionOf_6 rfl 0 rfl ?_
  refine Y_iconst (pc := 7) hC d_Na_sectionOf_7 ki_m1 ?_
  refine Y_icmp_ne (pc := 8) hC 15 d_Na_sectionOf_8 rfl (fun cc_8 => ?_) (fun cc_8 => ?_)
  · have h := ifn cc_8 h
    refine Y_aload_n (pc := 15) hC d_Na_sectionOf_15 rfl 1 rfl ?_
    refine Y_getR (pc := 16) hC sc_6 fl_Na_34 rfl d_Na_sectionOf_16 ?_
    refine Y_getR (pc := 19) hC sc_3 fl_Na_100 rfl d_Na_sectionOf_19 ?_
    refine Y_iload_n (pc := 22) hC d_Na_sectionOf_22 rfl 0 rfl ?_
    obtain ⟨hi, h⟩ := ck_some h
    refine Y_iald (pc := 23) hC sc_25 rfl hi d_Na_sectionOf_23 ?_
    exact Y_iret (pc := 24) hC hE d_Na_sectionOf_24 h
  · have h := ifp cc_8 h
    refine Y_iconst (pc := 11) hC d_Na_sectionOf_11 ki_m1 ?_
    refine Y_goto (pc := 12) hC 24 d_Na_sectionOf_12 rfl ?_
    exact Y_iret (pc := 24) hC hE d_Na_sectionOf_24 h
set_option maxHeartbeats 4000000 in
set_option maxRecDepth 100000 in
theorem c_Na_setMeaning (l : Launch) (D : va_G) (cI cZ : ClassId) (a : Nat → Nat) {V : Sto} {p1 : Int32} {p2 : Int32} {p3 : Int32} {p4 : Int32} {r : Int32} {V' : Sto} (h : f_Na_setMeaning V p1 p2 p3 p4 = some (r, V')) : YMv l D cI cZ a shpC y_Na_setMeaning b_Na_setMeaning 5 rm_Na_setMeaning true [.ref (a 6), .int p1, .int p2, .int p3, .int p4] V V' := by
  refine YMv_of (by decide) (Nat.le_of_ble_eq_true rfl) ?_
  intro C hl hDD hcI hcZ ha hC hw hE
  subst hl hDD hcI hcZ ha
  show Y C shpC 5 0 [(0, .ref (C.a 6)), (1, .int p1), (2, .int p2), (3, .int p3), (4, .int p4)] [] V
  have hw := hw rfl
  rw [f_Na_setMeaning] at h
  refine Y_aload_n (pc := 0) hC d_Na_setMeaning_0 rfl 0 rfl ?_
  refine Y_getR (pc := 1) hC sc_6 fl_Na_21 rfl d_Na_setMeaning_1 ?_
  refine Y_iload_n (pc := 4) hC d_Na_setMeaning_4 rfl 1 rfl ?_
  refine Y_iload_n (pc := 5) hC d_Na_setMeaning_5 rfl 2 rfl ?_
  obtain ⟨hi, h⟩ := ck_some h
  obtain ⟨V1, hV1, h⟩ := nm_some h
  refine Y_iast (pc := 6) hC sc_40 (by decide) rfl hi hw rfl hV1 d_Na_setMeaning_6 ?_
  refine Y_aload_n (pc := 7) hC d_Na_setMeaning_7 rfl 0 rfl ?_
  refine Y_getR (pc := 8) hC sc_6 fl_Na_24 rfl d_Na_setMeaning_8 ?_
  refine Y_iload_n (pc := 11) hC d_Na_setMeaning_11 rfl 1 rfl ?_
  refine Y_iload_n (pc := 12) hC d_Na_setMeaning_12 rfl 3 rfl ?_
  obtain ⟨hi, h⟩ := ck_some h
  obtain ⟨V2, hV2, h⟩ := nm_some h
  refine Y_iast (pc := 13) hC sc_41 (by decide) rfl hi hw rfl hV2 d_Na_setMeaning_13 ?_
  refine Y_aload_n (pc := 14) hC d_Na_setMeaning_14 rfl 0 rfl ?_
  refine Y_getR (pc := 15) hC sc_6 fl_Na_27 rfl d_Na_setMeaning_15 ?_
  refine Y_iload_n (pc := 18) hC d_Na_setMeaning_18 rfl 1 rfl ?_
  refine Y_iload (pc := 19) hC d_Na_setMeaning_19 4 rfl ?_
  obtain ⟨hi, h⟩ := ck_some h
  obtain ⟨V3, hV3, h⟩ := nm_some h
  refine Y_iast (pc := 21) hC sc_42 (by decide) rfl hi hw rfl hV3 d_Na_setMeaning_21 ?_
  exact Y_vret (pc := 22) hC hE d_Na_setMeaning_22 h
set_option maxHeartbeats 4000000 in
set_option maxRecDepth 100000 in
theorem c_Na_copyMeaning (l : Launch) (D : va_G) (cI cZ : ClassId) (a : Nat → Nat) {V : Sto} {p1 : Int32} {p2 : Int32} {r : Int32} {V' : Sto} (h : f_Na_copyMeaning V p1 p2 = some (r, V')) : YMv l D cI cZ a shpC y_Na_copyMeaning b_Na_copyMeaning 3 rm_Na_copyMeaning true [.ref (a 6), .int p1, .int p2] V V' := by
  refine YMv_of (by decide) (Nat.le_of_ble_eq_true rfl) ?_
  intro C hl hDD hcI hcZ ha hC hw hE
  subst hl hDD hcI hcZ ha
  show Y C shpC 3 0 [(0, .ref (C.a 6)), (1, .int p1), (2, .int p2)] [] V
  have hw := hw rfl
  rw [f_Na_copyMeaning] at h
  refine Y_aload_n (pc := 0) hC d_Na_copyMeaning_0 rfl 0 rfl ?_
  refine Y_iload_n (pc := 1) hC d_Na_copyMeaning_1 rfl 1 rfl ?_
  refine Y_aload_n (pc := 2) hC d_Na_copyMeaning_2 rfl 0 rfl ?_
  refine Y_getR (pc := 3) hC sc_6 fl_Na_34 rfl d_Na_copyMeaning_3 ?_
  refine Y_getR (pc := 6) hC sc_3 fl_Na_110 rfl d_Na_copyMeaning_6 ?_
  refine Y_iload_n (pc := 9) hC d_Na_copyMeaning_9 rfl 2 rfl ?_
  obtain ⟨hi, h⟩ := ck_some h
  refine Y_iald (pc := 10) hC sc_24 rfl hi d_Na_copyMeaning_10 ?_
  refine Y_aload_n (pc := 11) hC d_Na_copyMeaning_11 rfl 0 rfl ?_
  refine Y_getR (pc := 12) hC sc_6 fl_Na_34 rfl d_Na_copyMeaning_12 ?_
  refine Y_getR (pc := 15) hC sc_3 fl_Na_100 rfl d_Na_copyMeaning_15 ?_
  refine Y_iload_n (pc := 18) hC d_Na_copyMeaning_18 rfl 2 rfl ?_
  obtain ⟨hi, h⟩ := ck_some h
  refine Y_iald (pc := 19) hC sc_25 rfl hi d_Na_copyMeaning_19 ?_
  refine Y_aload_n (pc := 20) hC d_Na_copyMeaning_20 rfl 0 rfl ?_
  refine Y_getR (pc := 21) hC sc_6 fl_Na_34 rfl d_Na_copyMeaning_21 ?_
  refine Y_getR (pc := 24) hC sc_3 fl_Na_83 rfl d_Na_copyMeaning_24 ?_
  refine Y_iload_n (pc := 27) hC d_Na_copyMeaning_27 rfl 2 rfl ?_
  obtain ⟨hi, h⟩ := ck_some h
  refine Y_iald (pc := 28) hC sc_26 rfl hi d_Na_copyMeaning_28 ?_
  obtain ⟨r1, V1, hc_r1, h⟩ := cl_some h
  refine Y_callVv (pc := 29) hC (c_Na_setMeaning C.l C.D C.cI C.cZ C.a hc_r1) (fun _ => hw) sc_6 cls_Na ml_Na_103 mv_Na_setMeaning (by decide) (Nat.le_of_ble_eq_true rfl) rfl d_Na_copyMeaning_29 ?_
  exact Y_vret (pc := 32) hC hE d_Na_copyMeaning_32 h
