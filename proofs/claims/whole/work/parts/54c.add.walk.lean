def gcA (V : Sto) (p2 p3 : Int32) : Nat := if p2 = 2 then 0 else gc V (p3 / 4)
def gsA (V : Sto) (p2 p3 : Int32) : Nat := if p2 = 2 then 0 else gs V (p3 / 4)
def GV (V W : Sto) : Prop := W 2 2 = V 2 2 ∧ W 1000 14 = V 1000 14
theorem GV.c {V W : Sto} (h : GV V W) (p : Int32) : gc W p = gc V p := by
  have e1 := h.1
  have e2 : glen W = glen V := by unfold glen; rw [h.2]
  unfold gc
  rw [e1, e2]
theorem GV.s {V W : Sto} (h : GV V W) (p : Int32) : gs W p = gs V p := by
  have e1 := h.1
  have e2 : glen W = glen V := by unfold glen; rw [h.2]
  unfold gs gnew
  rw [e1, e2]
theorem GV.cA {V W : Sto} (h : GV V W) (p2 p3 : Int32) : gcA W p2 p3 = gcA V p2 p3 := by simp [gcA, h.c]
theorem GV.sA {V W : Sto} (h : GV V W) (p2 p3 : Int32) : gsA W p2 p3 = gsA V p2 p3 := by simp [gsA, h.s]
theorem GV.trans {V W X : Sto} (h1 : GV V W) (h2 : GV W X) : GV V X := ⟨h2.1.trans h1.1, h2.2.trans h1.2⟩
theorem GV.refl {V : Sto} : GV V V := ⟨rfl, rfl⟩
theorem gA_c {V W : Sto} {p2 p3 : Int32} (h : GV V W) (hn : ¬ p2 = 2) : 0 + gc W (p3 / 4) ≤ gcA V p2 p3 := by
  rw [h.c, gcA, if_neg hn]; omega
theorem gA_s {V W : Sto} {p2 p3 : Int32} (h : GV V W) (hn : ¬ p2 = 2) : 0 + gs W (p3 / 4) ≤ gsA V p2 p3 := by
  rw [h.s, gsA, if_neg hn]; omega
theorem gB_c {V W : Sto} {p2 p3 : Int32} (h : GV V W) : 0 + gcA W p2 p3 ≤ gcA V p2 p3 := by rw [h.cA]; omega
theorem gB_s {V W : Sto} {p2 p3 : Int32} (h : GV V W) : 0 + gsA W p2 p3 ≤ gsA V p2 p3 := by rw [h.sA]; omega
theorem kV_Un_has {V V1 : Sto} {p r : Int32} (h : f_Un_has V p = some (r, V1)) : GV V V1 := by
  unfold f_Un_has at h
  split at h
  · cases h; exact GV.refl
  · split at h <;> cases h <;> exact GV.refl
theorem kV_isSize {V V1 : Sto} {p q r : Int32} (h : f_Ly_isSize V p q = some (r, V1)) : GV V V1 := by
  unfold f_Ly_isSize at h
  split at h
  · cases h; exact GV.refl
  · split at h
    · cases h; exact GV.refl
    · split at h <;> cases h <;> exact GV.refl
theorem kV_isAlignment {V V1 : Sto} {p r : Int32} (h : f_Ly_isAlignment V p = some (r, V1)) : GV V V1 := by
  unfold f_Ly_isAlignment at h
  split at h
  · cases h; exact GV.refl
  · split at h
    · cases h; exact GV.refl
    · obtain ⟨r1, V2, h1, h⟩ := cl_some h
      unfold f_bitCount at h1
      cases h1
      split at h <;> cases h <;> exact GV.refl
theorem kV_take {V V1 : Sto} {r : Int32} (h : f_Ly_takeLinkAway V = some (r, V1)) : GV V V1 := by
  unfold f_Ly_takeLinkAway nm at h
  cases h
  constructor <;> simp [sw, upd]
set_option maxHeartbeats 4000000 in
set_option maxRecDepth 100000 in
theorem c_Se_add (l : Launch) (D : va_G) (cI cZ : ClassId) (a : Nat → Nat) {V : Sto} {p1 p2 p3 p4 r : Int32} {V' : Sto} (h : f_Se_add V p1 p2 p3 p4 = some (r, V')) : YMiG l D cI cZ a y_Se_add b_Se_add 5 (rm_Se_add (gcA V p2 p3) (gsA V p2 p3)) [.ref (a 2), .int p1, .int p2, .int p3, .int p4] V r V' := by
  refine YMiG_of (by decide) (Nat.le_of_ble_eq_true rfl) ?_
  intro C hl hDD hcI hcZ ha hC hw hE hk0 hn0
  subst hl hDD hcI hcZ ha
  show Y C shpC 5 0 [(0, .ref (C.a 2)), (1, .int p1), (2, .int p2), (3, .int p3), (4, .int p4)] [] V
  have hk : C.k ≤ gcA V p2 p3 ∧ C.n ≤ gsA V p2 p3 := ⟨by rw [hk0]; exact Nat.zero_le _, by rw [hn0]; exact Nat.zero_le _⟩
  rw [f_Se_add] at h
  refine Y_aload_n (pc := 0) hC d_Se_add_0 rfl 0 rfl ?_
  refine Y_getR (pc := 1) hC sc_2 fl_Se_15 rfl d_Se_add_1 ?_
  refine Y_aload_n (pc := 4) hC d_Se_add_4 rfl 0 rfl ?_
  refine Y_getI (pc := 5) hC sc_2 fl_Se_34 rfl d_Se_add_5 ?_
  refine Y_iload_n (pc := 8) hC d_Se_add_8 rfl 1 rfl ?_
  obtain ⟨hi, h⟩ := ck_some h
  obtain ⟨V1, hV1, h⟩ := nm_some h
  refine Y_iast (pc := 9) hC sc_15 (by decide) rfl hi hw rfl hV1 d_Se_add_9 ?_
  refine Y_aload_n (pc := 10) hC d_Se_add_10 rfl 0 rfl ?_
  refine Y_getR (pc := 11) hC sc_2 fl_Se_18 rfl d_Se_add_11 ?_
  refine Y_aload_n (pc := 14) hC d_Se_add_14 rfl 0 rfl ?_
  refine Y_getI (pc := 15) hC sc_2 fl_Se_34 rfl d_Se_add_15 ?_
  refine Y_iload_n (pc := 18) hC d_Se_add_18 rfl 2 rfl ?_
  obtain ⟨hi, h⟩ := ck_some h
  obtain ⟨V2, hV2, h⟩ := nm_some h
  refine Y_iast (pc := 19) hC sc_16 (by decide) rfl hi hw rfl hV2 d_Se_add_19 ?_
  refine Y_aload_n (pc := 20) hC d_Se_add_20 rfl 0 rfl ?_
  refine Y_getR (pc := 21) hC sc_2 fl_Se_21 rfl d_Se_add_21 ?_
  refine Y_aload_n (pc := 24) hC d_Se_add_24 rfl 0 rfl ?_
  refine Y_getI (pc := 25) hC sc_2 fl_Se_34 rfl d_Se_add_25 ?_
  refine Y_iload_n (pc := 28) hC d_Se_add_28 rfl 3 rfl ?_
  obtain ⟨hi, h⟩ := ck_some h
  obtain ⟨V3, hV3, h⟩ := nm_some h
  refine Y_iast (pc := 29) hC sc_17 (by decide) rfl hi hw rfl hV3 d_Se_add_29 ?_
  refine Y_aload_n (pc := 30) hC d_Se_add_30 rfl 0 rfl ?_
  refine Y_getR (pc := 31) hC sc_2 fl_Se_24 rfl d_Se_add_31 ?_
  refine Y_aload_n (pc := 34) hC d_Se_add_34 rfl 0 rfl ?_
  refine Y_getI (pc := 35) hC sc_2 fl_Se_34 rfl d_Se_add_35 ?_
  refine Y_iload (pc := 38) hC d_Se_add_38 4 rfl ?_
  obtain ⟨hi, h⟩ := ck_some h
  obtain ⟨V4, hV4, h⟩ := nm_some h
  refine Y_iast (pc := 40) hC sc_18 (by decide) rfl hi hw rfl hV4 d_Se_add_40 ?_
  refine Y_aload_n (pc := 41) hC d_Se_add_41 rfl 0 rfl ?_
  refine Y_getR (pc := 42) hC sc_2 fl_Se_27 rfl d_Se_add_42 ?_
  refine Y_aload_n (pc := 45) hC d_Se_add_45 rfl 0 rfl ?_
  refine Y_getI (pc := 46) hC sc_2 fl_Se_34 rfl d_Se_add_46 ?_
  refine Y_aload_n (pc := 49) hC d_Se_add_49 rfl 0 rfl ?_
  refine Y_getI (pc := 50) hC sc_2 fl_Se_42 rfl d_Se_add_50 ?_
  obtain ⟨hi, h⟩ := ck_some h
  obtain ⟨V5, hV5, h⟩ := nm_some h
  refine Y_iast (pc := 53) hC sc_19 (by decide) rfl hi hw rfl hV5 d_Se_add_53 ?_
  refine Y_aload_n (pc := 54) hC d_Se_add_54 rfl 0 rfl ?_
  refine Y_getR (pc := 55) hC sc_2 fl_Se_30 rfl d_Se_add_55 ?_
  refine Y_aload_n (pc := 58) hC d_Se_add_58 rfl 0 rfl ?_
  refine Y_getI (pc := 59) hC sc_2 fl_Se_34 rfl d_Se_add_59 ?_
  refine Y_iconst (pc := 62) hC d_Se_add_62 ki_0 ?_
  obtain ⟨hi, h⟩ := ck_some h
  obtain ⟨V6, hV6, h⟩ := nm_some h
  refine Y_zast (pc := 63) hC sc_20 (by decide) rfl hi hw rfl hV6 d_Se_add_63 ?_
  refine Y_aload_n (pc := 64) hC d_Se_add_64 rfl 0 rfl ?_
  refine Y_dup (pc := 65) hC d_Se_add_65 rfl ?_
  refine Y_getI (pc := 66) hC sc_2 fl_Se_45 rfl d_Se_add_66 ?_
  refine Y_iload_n (pc := 69) hC d_Se_add_69 rfl 3 rfl ?_
  refine Y_iadd (pc := 70) hC d_Se_add_70 ?_
  obtain ⟨V7, hV7, h⟩ := nm_some h
  refine Y_put (pc := 71) hC sc_2 fl_Se_45 rfl (by decide) fp_Se ft_Se_1 rfl rfl hw hV7 d_Se_add_71 ?_
  refine Y_iload_n (pc := 74) hC d_Se_add_74 rfl 2 rfl ?_
  refine Y_iconst (pc := 75) hC d_Se_add_75 ki_2 ?_
  have hGV : GV V V7 := by
    subst hV1 hV2 hV3 hV4 hV5 hV6 hV7
    constructor <;> simp [sw, upd]
  refine Y_icmp_eq (pc := 76) hC 86 d_Se_add_76 rfl (fun cc_76 => ?_) (fun cc_76 => ?_)
  · have h := ifp cc_76 h
    refine Y_aload_n (pc := 86) hC d_Se_add_86 rfl 0 rfl ?_
    refine Y_dup (pc := 87) hC d_Se_add_87 rfl ?_
    refine Y_getI (pc := 88) hC sc_2 fl_Se_34 rfl d_Se_add_88 ?_
    refine Y_dup_x1 (pc := 91) hC d_Se_add_91 rfl rfl ?_
    refine Y_iconst (pc := 92) hC d_Se_add_92 ki_1 ?_
    refine Y_iadd (pc := 93) hC d_Se_add_93 ?_
    obtain ⟨V8, hV8, h⟩ := nm_some h
    refine Y_put (pc := 94) hC sc_2 fl_Se_34 rfl (by decide) fp_Se ft_Se_0 rfl rfl hw hV8 d_Se_add_94 ?_
    exact Y_iretG (pc := 97) hC hE d_Se_add_97 hk h
  · have h := ifn cc_76 h
    refine Y_aload_n (pc := 79) hC d_Se_add_79 rfl 0 rfl ?_
    refine Y_iload_n (pc := 80) hC d_Se_add_80 rfl 3 rfl ?_
    refine Y_iconst (pc := 81) hC d_Se_add_81 ki_4 ?_
    refine Y_idiv (pc := 82) hC d_Se_add_82 (by decide) ?_
    obtain ⟨r1, V9, hc_r1, h⟩ := cl_some h
    refine Y_callVvG (pc := 83) hC hw (c_Se_store C.l C.D C.cI C.cZ C.a hc_r1) sc_2 cls_Se ml_Se_48 mv_Se_store ⟨⟨Nat.le_of_ble_eq_true rfl, Nat.le_of_ble_eq_true rfl⟩, by rw [hk0]; exact gA_c hGV (by assumption), by rw [hn0]; exact gA_s hGV (by assumption)⟩ (Nat.le_of_ble_eq_true rfl) rfl d_Se_add_83 (fun C2 hMv hC hw => ?_)
    rw [← hMv.a 2 (by decide)]
    have hE := hMv.i hE
    have hk : C2.k ≤ _ ∧ C2.n ≤ _ := ⟨by rw [hMv.k, hk0]; exact gA_c hGV (by assumption), by rw [hMv.n, hn0]; exact gA_s hGV (by assumption)⟩
    refine Y_aload_n (pc := 86) hC d_Se_add_86 rfl 0 rfl ?_
    refine Y_dup (pc := 87) hC d_Se_add_87 rfl ?_
    refine Y_getI (pc := 88) hC sc_2 fl_Se_34 rfl d_Se_add_88 ?_
    refine Y_dup_x1 (pc := 91) hC d_Se_add_91 rfl rfl ?_
    refine Y_iconst (pc := 92) hC d_Se_add_92 ki_1 ?_
    refine Y_iadd (pc := 93) hC d_Se_add_93 ?_
    obtain ⟨V10, hV10, h⟩ := nm_some h
    refine Y_put (pc := 94) hC sc_2 fl_Se_34 rfl (by decide) fp_Se ft_Se_0 rfl rfl hw hV10 d_Se_add_94 ?_
    exact Y_iretG (pc := 97) hC hE d_Se_add_97 hk h
