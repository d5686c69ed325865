set_option maxHeartbeats 4000000 in
set_option maxRecDepth 100000 in
theorem c_Ly_section (l : Launch) (D : va_G) (cI cZ : ClassId) (a : Nat → Nat) {V : Sto} {p1 p2 p3 p4 r : Int32} {V' : Sto} (h : f_Ly_section V p1 p2 p3 p4 = some (.inl r, V')) : YMiG l D cI cZ a y_Ly_section b_Ly_section 5 (rm_Ly_section (gcA V p2 p3) (gsA V p2 p3)) [.ref (a 0), .int p1, .int p2, .int p3, .int p4] V r V' := by
  refine YMiG_of (by decide) (Nat.le_of_ble_eq_true rfl) ?_
  intro C hl hDD hcI hcZ ha hC hw hE hk0 hn0
  subst hl hDD hcI hcZ ha
  show Y C shpC 5 0 [(0, .ref (C.a 0)), (1, .int p1), (2, .int p2), (3, .int p3), (4, .int p4)] [] V
  have hGV : GV V V := GV.refl
  rw [f_Ly_section] at h
  refine Y_aload_n (pc := 0) hC d_Ly_section_0 rfl 0 rfl ?_
  refine Y_getR (pc := 1) hC sc_0 fl_Ly_10 rfl d_Ly_section_1 ?_
  refine Y_iload_n (pc := 4) hC d_Ly_section_4 rfl 1 rfl ?_
  obtain ⟨r1, V1, hc_r1, h⟩ := cl_some h
  have hGV := hGV.trans (kV_Un_has hc_r1)
  refine Y_callV (pc := 5) hC (c_Un_has C.l C.D C.cI C.cZ C.a hc_r1) (fun q => nomatch q) sc_1 cls_Un ml_Ly_130 mv_Un_has ⟨⟨Nat.le_of_ble_eq_true rfl, Nat.le_of_ble_eq_true rfl⟩, rfl, rfl⟩ (Nat.le_of_ble_eq_true rfl) rfl d_Ly_section_5 ?_
  refine Y_if_eq (pc := 8) hC 20 d_Ly_section_8 rfl (fun cc_8 => ?_) (fun cc_8 => ?_)
  · have h := ifp cc_8 h
    cases h
  · have h := ifn cc_8 h
    refine Y_iload_n (pc := 11) hC d_Ly_section_11 rfl 2 rfl ?_
    refine Y_if_lt (pc := 12) hC 20 d_Ly_section_12 rfl (fun cc_12 => ?_) (fun cc_12 => ?_)
    · have h := ifp cc_12 h
      cases h
    · have h := ifn cc_12 h
      refine Y_iload_n (pc := 15) hC d_Ly_section_15 rfl 2 rfl ?_
      refine Y_iconst (pc := 16) hC d_Ly_section_16 ki_2 ?_
      refine Y_icmp_le (pc := 17) hC 30 d_Ly_section_17 rfl (fun cc_17 => ?_) (fun cc_17 => ?_)
      · have h := ifp cc_17 h
        refine Y_iload_n (pc := 30) hC d_Ly_section_30 rfl 3 rfl ?_
        refine Y_iconst (pc := 31) hC d_Ly_section_31 ki_0 ?_
        obtain ⟨r2, V2, hc_r2, h⟩ := cl_some h
        have hGV := hGV.trans (kV_isSize hc_r2)
        refine Y_callS (pc := 32) hC (c_Ly_isSize C.l C.D C.cI C.cZ C.a hc_r2) (fun q => nomatch q) ml_Ly_136 ms_Ly_isSize ⟨⟨Nat.le_of_ble_eq_true rfl, Nat.le_of_ble_eq_true rfl⟩, rfl, rfl⟩ (Nat.le_of_ble_eq_true rfl) rfl d_Ly_section_32 ?_
        refine Y_if_eq (pc := 35) hC 46 d_Ly_section_35 rfl (fun cc_35 => ?_) (fun cc_35 => ?_)
        · have h := ifp cc_35 h
          cases h
        · have h := ifn cc_35 h
          refine Y_iload (pc := 38) hC d_Ly_section_38 4 rfl ?_
          obtain ⟨r3, V3, hc_r3, h⟩ := cl_some h
          have hGV := hGV.trans (kV_isAlignment hc_r3)
          refine Y_callS (pc := 40) hC (c_Ly_isAlignment C.l C.D C.cI C.cZ C.a hc_r3) (fun q => nomatch q) ml_Ly_140 ms_Ly_isAlignment ⟨⟨Nat.le_of_ble_eq_true rfl, Nat.le_of_ble_eq_true rfl⟩, rfl, rfl⟩ (Nat.le_of_ble_eq_true rfl) rfl d_Ly_section_40 ?_
          refine Y_if_ne (pc := 43) hC 56 d_Ly_section_43 rfl (fun cc_43 => ?_) (fun cc_43 => ?_)
          · have h := ifn cc_43 h
            refine Y_aload_n (pc := 56) hC d_Ly_section_56 rfl 0 rfl ?_
            refine Y_getR (pc := 57) hC sc_0 fl_Ly_19 rfl d_Ly_section_57 ?_
            refine Y_getI (pc := 60) hC sc_2 fl_Ly_145 rfl d_Ly_section_60 ?_
            refine Y_bipush (pc := 63) hC d_Ly_section_63 kb_96 ?_
            refine Y_icmp_ge (pc := 65) hC 82 d_Ly_section_65 rfl (fun cc_65 => ?_) (fun cc_65 => ?_)
            · have h := ifp cc_65 h
              cases h
            · have h := ifn cc_65 h
              refine Y_iload_n (pc := 68) hC d_Ly_section_68 rfl 3 rfl ?_
              refine Y_ldc (pc := 69) hC kc_Ly_146 d_Ly_section_69 ?_
              refine Y_aload_n (pc := 71) hC d_Ly_section_71 rfl 0 rfl ?_
              refine Y_getR (pc := 72) hC sc_0 fl_Ly_19 rfl d_Ly_section_72 ?_
              refine Y_getI (pc := 75) hC sc_2 fl_Ly_147 rfl d_Ly_section_75 ?_
              refine Y_isub (pc := 78) hC d_Ly_section_78 ?_
              refine Y_icmp_le (pc := 79) hC 92 d_Ly_section_79 rfl (fun cc_79 => ?_) (fun cc_79 => ?_)
              · have h := ifp cc_79 h
                refine Y_aload_n (pc := 92) hC d_Ly_section_92 rfl 0 rfl ?_
                obtain ⟨r4, V4, hc_r4, h⟩ := cl_some h
                have hGV := hGV.trans (kV_take hc_r4)
                refine Y_callVv (pc := 93) hC (c_Ly_takeLinkAway C.l C.D C.cI C.cZ C.a hc_r4) (fun _ => hw) sc_0 cls_Ly ml_Ly_123 mv_Ly_takeLinkAway ⟨⟨Nat.le_of_ble_eq_true rfl, Nat.le_of_ble_eq_true rfl⟩, rfl, rfl⟩ (Nat.le_of_ble_eq_true rfl) rfl d_Ly_section_93 ?_
                refine Y_aload_n (pc := 96) hC d_Ly_section_96 rfl 0 rfl ?_
                refine Y_getR (pc := 97) hC sc_0 fl_Ly_19 rfl d_Ly_section_97 ?_
                refine Y_iload_n (pc := 100) hC d_Ly_section_100 rfl 1 rfl ?_
                refine Y_iload_n (pc := 101) hC d_Ly_section_101 rfl 2 rfl ?_
                refine Y_iload_n (pc := 102) hC d_Ly_section_102 rfl 3 rfl ?_
                refine Y_iload (pc := 103) hC d_Ly_section_103 4 rfl ?_
                obtain ⟨r5, V5, hc_r5, h⟩ := cl_some h
                refine Y_callVG (pc := 105) hC hw (c_Se_add C.l C.D C.cI C.cZ C.a hc_r5) sc_2 cls_Se ml_Ly_152 mv_Se_add ⟨⟨Nat.le_of_ble_eq_true rfl, Nat.le_of_ble_eq_true rfl⟩, by rw [hk0]; exact gB_c hGV, by rw [hn0]; exact gB_s hGV⟩ (Nat.le_of_ble_eq_true rfl) rfl d_Ly_section_105 (fun C2 hMv hC hw => ?_)
                rw [← hMv.a 0 (by decide)]
                have hE := hMv.i hE
                have hk : C2.k ≤ _ ∧ C2.n ≤ _ := ⟨by rw [hMv.k, hk0]; exact gB_c hGV, by rw [hMv.n, hn0]; exact gB_s hGV⟩
                have h := inl_some h
                exact Y_iretG (pc := 108) hC hE d_Ly_section_108 hk h
              · have h := ifn cc_79 h
                cases h
          · have h := ifp cc_43 h
            cases h
      · have h := ifn cc_17 h
        cases h
set_option maxHeartbeats 4000000 in
set_option maxRecDepth 100000 in
theorem t_Ly_section (l : Launch) (D : va_G) (cI cZ : ClassId) (a : Nat → Nat) (hN : NoTr l) {V : Sto} {p1 : Int32} {p2 : Int32} {p3 : Int32} {p4 : Int32} {e : Nat} {V' : Sto} (h : f_Ly_section V p1 p2 p3 p4 = some (.inr e, V')) : YMt l D cI cZ a shpC y_Ly_section b_Ly_section 5 (some .int) rmt_Ly_section [.ref (a 0), .int p1, .int p2, .int p3, .int p4] V (exn e) := by
  refine YMt_of hN (by decide) (Nat.le_of_ble_eq_true rfl) ?_
  intro C hl hDD hcI hcZ ha hC hT
  subst hl hDD hcI hcZ ha
  show Y C shpC 5 0 [(0, .ref (C.a 0)), (1, .int p1), (2, .int p2), (3, .int p3), (4, .int p4)] [] V
  rw [f_Ly_section] at h
  refine Y_aload_n (pc := 0) hC d_Ly_section_0 rfl 0 rfl ?_
  refine Y_getR (pc := 1) hC sc_0 fl_Ly_10 rfl d_Ly_section_1 ?_
  refine Y_iload_n (pc := 4) hC d_Ly_section_4 rfl 1 rfl ?_
  obtain ⟨r1, V1, hc_r1, h⟩ := cl_some h
  refine Y_callV (pc := 5) hC (c_Un_has C.l C.D C.cI C.cZ C.a hc_r1) (fun q => nomatch q) sc_1 cls_Un ml_Ly_130 mv_Un_has (by decide) (Nat.le_of_ble_eq_true rfl) rfl d_Ly_section_5 ?_
  refine Y_if_eq (pc := 8) hC 20 d_Ly_section_8 rfl (fun cc_8 => ?_) (fun cc_8 => ?_)
  · have h := ifp cc_8 h
    cases h
    exact Y_throwW (pc := 20) (E := "java/lang/IllegalArgumentException") (tx := "no such unit or kind") (len := 2) (names := ["java/lang/RuntimeException", "java/lang/Exception"]) hC hT tok_Ly_112_108 (by decide) rfl (by decide) d_Ly_section_20 d_Ly_section_23 (Or.inl ⟨d_Ly_section_24, rfl⟩) d_Ly_section_26 d_Ly_section_29
  · have h := ifn cc_8 h
    refine Y_iload_n (pc := 11) hC d_Ly_section_11 rfl 2 rfl ?_
    refine Y_if_lt (pc := 12) hC 20 d_Ly_section_12 rfl (fun cc_12 => ?_) (fun cc_12 => ?_)
    · have h := ifp cc_12 h
      cases h
      exact Y_throwW (pc := 20) (E := "java/lang/IllegalArgumentException") (tx := "no such unit or kind") (len := 2) (names := ["java/lang/RuntimeException", "java/lang/Exception"]) hC hT tok_Ly_112_108 (by decide) rfl (by decide) d_Ly_section_20 d_Ly_section_23 (Or.inl ⟨d_Ly_section_24, rfl⟩) d_Ly_section_26 d_Ly_section_29
    · have h := ifn cc_12 h
      refine Y_iload_n (pc := 15) hC d_Ly_section_15 rfl 2 rfl ?_
      refine Y_iconst (pc := 16) hC d_Ly_section_16 ki_2 ?_
      refine Y_icmp_le (pc := 17) hC 30 d_Ly_section_17 rfl (fun cc_17 => ?_) (fun cc_17 => ?_)
      · have h := ifp cc_17 h
        refine Y_iload_n (pc := 30) hC d_Ly_section_30 rfl 3 rfl ?_
        refine Y_iconst (pc := 31) hC d_Ly_section_31 ki_0 ?_
        obtain ⟨r2, V2, hc_r2, h⟩ := cl_some h
        refine Y_callS (pc := 32) hC (c_Ly_isSize C.l C.D C.cI C.cZ C.a hc_r2) (fun q => nomatch q) ml_Ly_136 ms_Ly_isSize (by decide) (Nat.le_of_ble_eq_true rfl) rfl d_Ly_section_32 ?_
        refine Y_if_eq (pc := 35) hC 46 d_Ly_section_35 rfl (fun cc_35 => ?_) (fun cc_35 => ?_)
        · have h := ifp cc_35 h
          cases h
          exact Y_throwW (pc := 46) (E := "java/lang/IllegalArgumentException") (tx := "no such size or alignment") (len := 2) (names := ["java/lang/RuntimeException", "java/lang/Exception"]) hC hT tok_Ly_112_108 (by decide) rfl (by decide) d_Ly_section_46 d_Ly_section_49 (Or.inl ⟨d_Ly_section_50, rfl⟩) d_Ly_section_52 d_Ly_section_55
        · have h := ifn cc_35 h
          refine Y_iload (pc := 38) hC d_Ly_section_38 4 rfl ?_
          obtain ⟨r3, V3, hc_r3, h⟩ := cl_some h
          refine Y_callS (pc := 40) hC (c_Ly_isAlignment C.l C.D C.cI C.cZ C.a hc_r3) (fun q => nomatch q) ml_Ly_140 ms_Ly_isAlignment (by decide) (Nat.le_of_ble_eq_true rfl) rfl d_Ly_section_40 ?_
          refine Y_if_ne (pc := 43) hC 56 d_Ly_section_43 rfl (fun cc_43 => ?_) (fun cc_43 => ?_)
          · have h := ifn cc_43 h
            refine Y_aload_n (pc := 56) hC d_Ly_section_56 rfl 0 rfl ?_
            refine Y_getR (pc := 57) hC sc_0 fl_Ly_19 rfl d_Ly_section_57 ?_
            refine Y_getI (pc := 60) hC sc_2 fl_Ly_145 rfl d_Ly_section_60 ?_
            refine Y_bipush (pc := 63) hC d_Ly_section_63 kb_96 ?_
            refine Y_icmp_ge (pc := 65) hC 82 d_Ly_section_65 rfl (fun cc_65 => ?_) (fun cc_65 => ?_)
            · have h := ifp cc_65 h
              cases h
              exact Y_throwW (pc := 82) (E := "java/lang/UnsupportedOperationException") (tx := "too many sections or bytes") (len := 2) (names := ["java/lang/RuntimeException", "java/lang/Exception"]) hC hT tok_Ly_122_118 (by decide) rfl (by decide) d_Ly_section_82 d_Ly_section_85 (Or.inl ⟨d_Ly_section_86, rfl⟩) d_Ly_section_88 d_Ly_section_91
            · have h := ifn cc_65 h
              refine Y_iload_n (pc := 68) hC d_Ly_section_68 rfl 3 rfl ?_
              refine Y_ldc (pc := 69) hC kc_Ly_146 d_Ly_section_69 ?_
              refine Y_aload_n (pc := 71) hC d_Ly_section_71 rfl 0 rfl ?_
              refine Y_getR (pc := 72) hC sc_0 fl_Ly_19 rfl d_Ly_section_72 ?_
              refine Y_getI (pc := 75) hC sc_2 fl_Ly_147 rfl d_Ly_section_75 ?_
              refine Y_isub (pc := 78) hC d_Ly_section_78 ?_
              refine Y_icmp_le (pc := 79) hC 92 d_Ly_section_79 rfl (fun cc_79 => ?_) (fun cc_79 => ?_)
              · have h := ifp cc_79 h
                obtain ⟨_, _, -, h⟩ := cl_some h
                obtain ⟨_, _, -, h⟩ := cl_some h
                cases h
              · have h := ifn cc_79 h
                cases h
                exact Y_throwW (pc := 82) (E := "java/lang/UnsupportedOperationException") (tx := "too many sections or bytes") (len := 2) (names := ["java/lang/RuntimeException", "java/lang/Exception"]) hC hT tok_Ly_122_118 (by decide) rfl (by decide) d_Ly_section_82 d_Ly_section_85 (Or.inl ⟨d_Ly_section_86, rfl⟩) d_Ly_section_88 d_Ly_section_91
          · have h := ifp cc_43 h
            cases h
            exact Y_throwW (pc := 46) (E := "java/lang/IllegalArgumentException") (tx := "no such size or alignment") (len := 2) (names := ["java/lang/RuntimeException", "java/lang/Exception"]) hC hT tok_Ly_112_108 (by decide) rfl (by decide) d_Ly_section_46 d_Ly_section_49 (Or.inl ⟨d_Ly_section_50, rfl⟩) d_Ly_section_52 d_Ly_section_55
      · have h := ifn cc_17 h
        cases h
        exact Y_throwW (pc := 20) (E := "java/lang/IllegalArgumentException") (tx := "no such unit or kind") (len := 2) (names := ["java/lang/RuntimeException", "java/lang/Exception"]) hC hT tok_Ly_112_108 (by decide) rfl (by decide) d_Ly_section_20 d_Ly_section_23 (Or.inl ⟨d_Ly_section_24, rfl⟩) d_Ly_section_26 d_Ly_section_29
