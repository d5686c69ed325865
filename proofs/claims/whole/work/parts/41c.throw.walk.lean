set_option maxHeartbeats 4000000 in
set_option maxRecDepth 100000 in
theorem c_Ly_unit (l : Launch) (D : va_G) (cI cZ : ClassId) (a : Nat → Nat) {V : Sto} {p1 : Int32} {r : Int32} {V' : Sto} (h : f_Ly_unit V p1 = some (.inl r, V')) : YMi l D cI cZ a shpC y_Ly_unit b_Ly_unit 2 (some .int) rm_Ly_unit true [.ref (a 0), .int p1] V r V' := by
  refine YMi_of (by decide) (Nat.le_of_ble_eq_true rfl) ?_
  intro C hl hDD hcI hcZ ha hC hw hE
  subst hl hDD hcI hcZ ha
  show Y C shpC 2 0 [(0, .ref (C.a 0)), (1, .int p1)] [] V
  have hw := hw rfl
  rw [f_Ly_unit] at h
  refine Y_iload_n (pc := 0) hC d_Ly_unit_0 rfl 1 rfl ?_
  refine Y_iconst (pc := 1) hC d_Ly_unit_1 ki_m1 ?_
  refine Y_icmp_eq (pc := 2) hC 24 d_Ly_unit_2 rfl (fun cc_2 => ?_) (fun cc_2 => ?_)
  · have h := ifp cc_2 h
    refine Y_aload_n (pc := 24) hC d_Ly_unit_24 rfl 0 rfl ?_
    refine Y_getR (pc := 25) hC sc_0 fl_Ly_10 rfl d_Ly_unit_25 ?_
    refine Y_getI (pc := 28) hC sc_1 fl_Ly_115 rfl d_Ly_unit_28 ?_
    refine Y_bipush (pc := 31) hC d_Ly_unit_31 kb_24 ?_
    refine Y_icmp_lt (pc := 33) hC 46 d_Ly_unit_33 rfl (fun cc_33 => ?_) (fun cc_33 => ?_)
    · have h := ifp cc_33 h
      refine Y_aload_n (pc := 46) hC d_Ly_unit_46 rfl 0 rfl ?_
      obtain ⟨r1, V1, hc_r1, h⟩ := cl_some h
      refine Y_callVv (pc := 47) hC (c_Ly_takeLinkAway C.l C.D C.cI C.cZ C.a hc_r1) (fun _ => hw) sc_0 cls_Ly ml_Ly_123 mv_Ly_takeLinkAway (by decide) (Nat.le_of_ble_eq_true rfl) rfl d_Ly_unit_47 ?_
      refine Y_aload_n (pc := 50) hC d_Ly_unit_50 rfl 0 rfl ?_
      refine Y_getR (pc := 51) hC sc_0 fl_Ly_10 rfl d_Ly_unit_51 ?_
      refine Y_iload_n (pc := 54) hC d_Ly_unit_54 rfl 1 rfl ?_
      obtain ⟨r2, V2, hc_r2, h⟩ := cl_some h
      refine Y_callV (pc := 55) hC (c_Un_add C.l C.D C.cI C.cZ C.a hc_r2) (fun _ => hw) sc_1 cls_Un ml_Ly_126 mv_Un_add (by decide) (Nat.le_of_ble_eq_true rfl) rfl d_Ly_unit_55 ?_
      have h := inl_some h
      exact Y_iret (pc := 58) hC hE d_Ly_unit_58 h
    · have h := ifn cc_33 h
      cases h
  · have h := ifn cc_2 h
    refine Y_iload_n (pc := 5) hC d_Ly_unit_5 rfl 1 rfl ?_
    refine Y_if_lt (pc := 6) hC 14 d_Ly_unit_6 rfl (fun cc_6 => ?_) (fun cc_6 => ?_)
    · have h := ifp cc_6 h
      cases h
    · have h := ifn cc_6 h
      refine Y_iload_n (pc := 9) hC d_Ly_unit_9 rfl 1 rfl ?_
      refine Y_iconst (pc := 10) hC d_Ly_unit_10 ki_4 ?_
      refine Y_icmp_lt (pc := 11) hC 24 d_Ly_unit_11 rfl (fun cc_11 => ?_) (fun cc_11 => ?_)
      · have h := ifp cc_11 h
        refine Y_aload_n (pc := 24) hC d_Ly_unit_24 rfl 0 rfl ?_
        refine Y_getR (pc := 25) hC sc_0 fl_Ly_10 rfl d_Ly_unit_25 ?_
        refine Y_getI (pc := 28) hC sc_1 fl_Ly_115 rfl d_Ly_unit_28 ?_
        refine Y_bipush (pc := 31) hC d_Ly_unit_31 kb_24 ?_
        refine Y_icmp_lt (pc := 33) hC 46 d_Ly_unit_33 rfl (fun cc_33 => ?_) (fun cc_33 => ?_)
        · have h := ifp cc_33 h
          refine Y_aload_n (pc := 46) hC d_Ly_unit_46 rfl 0 rfl ?_
          obtain ⟨r3, V3, hc_r3, h⟩ := cl_some h
          refine Y_callVv (pc := 47) hC (c_Ly_takeLinkAway C.l C.D C.cI C.cZ C.a hc_r3) (fun _ => hw) sc_0 cls_Ly ml_Ly_123 mv_Ly_takeLinkAway (by decide) (Nat.le_of_ble_eq_true rfl) rfl d_Ly_unit_47 ?_
          refine Y_aload_n (pc := 50) hC d_Ly_unit_50 rfl 0 rfl ?_
          refine Y_getR (pc := 51) hC sc_0 fl_Ly_10 rfl d_Ly_unit_51 ?_
          refine Y_iload_n (pc := 54) hC d_Ly_unit_54 rfl 1 rfl ?_
          obtain ⟨r4, V4, hc_r4, h⟩ := cl_some h
          refine Y_callV (pc := 55) hC (c_Un_add C.l C.D C.cI C.cZ C.a hc_r4) (fun _ => hw) sc_1 cls_Un ml_Ly_126 mv_Un_add (by decide) (Nat.le_of_ble_eq_true rfl) rfl d_Ly_unit_55 ?_
          have h := inl_some h
          exact Y_iret (pc := 58) hC hE d_Ly_unit_58 h
        · have h := ifn cc_33 h
          cases h
      · have h := ifn cc_11 h
        cases h
set_option maxHeartbeats 4000000 in
set_option maxRecDepth 100000 in
theorem t_Ly_unit (l : Launch) (D : va_G) (cI cZ : ClassId) (a : Nat → Nat) (hN : NoTr l) {V : Sto} {p1 : Int32} {e : Nat} {V' : Sto} (h : f_Ly_unit V p1 = some (.inr e, V')) : YMt l D cI cZ a shpC y_Ly_unit b_Ly_unit 2 (some .int) rmt_Ly_unit [.ref (a 0), .int p1] V (exn e) := by
  refine YMt_of hN (by decide) (Nat.le_of_ble_eq_true rfl) ?_
  intro C hl hDD hcI hcZ ha hC hT
  subst hl hDD hcI hcZ ha
  show Y C shpC 2 0 [(0, .ref (C.a 0)), (1, .int p1)] [] V
  rw [f_Ly_unit] at h
  refine Y_iload_n (pc := 0) hC d_Ly_unit_0 rfl 1 rfl ?_
  refine Y_iconst (pc := 1) hC d_Ly_unit_1 ki_m1 ?_
  refine Y_icmp_eq (pc := 2) hC 24 d_Ly_unit_2 rfl (fun cc_2 => ?_) (fun cc_2 => ?_)
  · have h := ifp cc_2 h
    refine Y_aload_n (pc := 24) hC d_Ly_unit_24 rfl 0 rfl ?_
    refine Y_getR (pc := 25) hC sc_0 fl_Ly_10 rfl d_Ly_unit_25 ?_
    refine Y_getI (pc := 28) hC sc_1 fl_Ly_115 rfl d_Ly_unit_28 ?_
    refine Y_bipush (pc := 31) hC d_Ly_unit_31 kb_24 ?_
    refine Y_icmp_lt (pc := 33) hC 46 d_Ly_unit_33 rfl (fun cc_33 => ?_) (fun cc_33 => ?_)
    · have h := ifp cc_33 h
      obtain ⟨_, _, -, h⟩ := cl_some h
      obtain ⟨_, _, -, h⟩ := cl_some h
      cases h
    · have h := ifn cc_33 h
      cases h
      exact Y_throwW (pc := 36) (E := "java/lang/UnsupportedOperationException") (tx := "too many units") (len := 2) (names := ["java/lang/RuntimeException", "java/lang/Exception"]) hC hT tok_Ly_122_118 (by decide) rfl (by decide) d_Ly_unit_36 d_Ly_unit_39 (Or.inl ⟨d_Ly_unit_40, rfl⟩) d_Ly_unit_42 d_Ly_unit_45
  · have h := ifn cc_2 h
    refine Y_iload_n (pc := 5) hC d_Ly_unit_5 rfl 1 rfl ?_
    refine Y_if_lt (pc := 6) hC 14 d_Ly_unit_6 rfl (fun cc_6 => ?_) (fun cc_6 => ?_)
    · have h := ifp cc_6 h
      cases h
      exact Y_throwW (pc := 14) (E := "java/lang/IllegalArgumentException") (tx := "no such archive") (len := 2) (names := ["java/lang/RuntimeException", "java/lang/Exception"]) hC hT tok_Ly_112_108 (by decide) rfl (by decide) d_Ly_unit_14 d_Ly_unit_17 (Or.inl ⟨d_Ly_unit_18, rfl⟩) d_Ly_unit_20 d_Ly_unit_23
    · have h := ifn cc_6 h
      refine Y_iload_n (pc := 9) hC d_Ly_unit_9 rfl 1 rfl ?_
      refine Y_iconst (pc := 10) hC d_Ly_unit_10 ki_4 ?_
      refine Y_icmp_lt (pc := 11) hC 24 d_Ly_unit_11 rfl (fun cc_11 => ?_) (fun cc_11 => ?_)
      · have h := ifp cc_11 h
        refine Y_aload_n (pc := 24) hC d_Ly_unit_24 rfl 0 rfl ?_
        refine Y_getR (pc := 25) hC sc_0 fl_Ly_10 rfl d_Ly_unit_25 ?_
        refine Y_getI (pc := 28) hC sc_1 fl_Ly_115 rfl d_Ly_unit_28 ?_
        refine Y_bipush (pc := 31) hC d_Ly_unit_31 kb_24 ?_
        refine Y_icmp_lt (pc := 33) hC 46 d_Ly_unit_33 rfl (fun cc_33 => ?_) (fun cc_33 => ?_)
        · have h := ifp cc_33 h
          obtain ⟨_, _, -, h⟩ := cl_some h
          obtain ⟨_, _, -, h⟩ := cl_some h
          cases h
        · have h := ifn cc_33 h
          cases h
          exact Y_throwW (pc := 36) (E := "java/lang/UnsupportedOperationException") (tx := "too many units") (len := 2) (names := ["java/lang/RuntimeException", "java/lang/Exception"]) hC hT tok_Ly_122_118 (by decide) rfl (by decide) d_Ly_unit_36 d_Ly_unit_39 (Or.inl ⟨d_Ly_unit_40, rfl⟩) d_Ly_unit_42 d_Ly_unit_45
      · have h := ifn cc_11 h
        cases h
        exact Y_throwW (pc := 14) (E := "java/lang/IllegalArgumentException") (tx := "no such archive") (len := 2) (names := ["java/lang/RuntimeException", "java/lang/Exception"]) hC hT tok_Ly_112_108 (by decide) rfl (by decide) d_Ly_unit_14 d_Ly_unit_17 (Or.inl ⟨d_Ly_unit_18, rfl⟩) d_Ly_unit_20 d_Ly_unit_23
set_option maxHeartbeats 4000000 in
set_option maxRecDepth 100000 in
theorem c_Ly_word (l : Launch) (D : va_G) (cI cZ : ClassId) (a : Nat → Nat) {V : Sto} {p1 : Int32} {p2 : Int32} {p3 : Int32} {r : Int32} {V' : Sto} (h : f_Ly_word V p1 p2 p3 = some (.inl r, V')) : YMv l D cI cZ a shpC y_Ly_word b_Ly_word 4 rm_Ly_word true [.ref (a 0), .int p1, .int p2, .int p3] V V' := by
  refine YMv_of (by decide) (Nat.le_of_ble_eq_true rfl) ?_
  intro C hl hDD hcI hcZ ha hC hw hE
  subst hl hDD hcI hcZ ha
  show Y C shpC 4 0 [(0, .ref (C.a 0)), (1, .int p1), (2, .int p2), (3, .int p3)] [] V
  have hw := hw rfl
  rw [f_Ly_word] at h
  refine Y_aload_n (pc := 0) hC d_Ly_word_0 rfl 0 rfl ?_
  refine Y_getR (pc := 1) hC sc_0 fl_Ly_19 rfl d_Ly_word_1 ?_
  refine Y_iload_n (pc := 4) hC d_Ly_word_4 rfl 1 rfl ?_
  refine Y_iload_n (pc := 5) hC d_Ly_word_5 rfl 2 rfl ?_
  obtain ⟨r1, V1, hc_r1, h⟩ := cl_some h
  refine Y_callV (pc := 6) hC (c_Se_hasWord C.l C.D C.cI C.cZ C.a hc_r1) (fun q => nomatch q) sc_2 cls_Se ml_Ly_155 mv_Se_hasWord (by decide) (Nat.le_of_ble_eq_true rfl) rfl d_Ly_word_6 ?_
  refine Y_if_ne (pc := 9) hC 22 d_Ly_word_9 rfl (fun cc_9 => ?_) (fun cc_9 => ?_)
  · have h := ifn cc_9 h
    refine Y_aload_n (pc := 22) hC d_Ly_word_22 rfl 0 rfl ?_
    obtain ⟨r2, V2, hc_r2, h⟩ := cl_some h
    refine Y_callVv (pc := 23) hC (c_Ly_takeLinkAway C.l C.D C.cI C.cZ C.a hc_r2) (fun _ => hw) sc_0 cls_Ly ml_Ly_123 mv_Ly_takeLinkAway (by decide) (Nat.le_of_ble_eq_true rfl) rfl d_Ly_word_23 ?_
    refine Y_aload_n (pc := 26) hC d_Ly_word_26 rfl 0 rfl ?_
    refine Y_getR (pc := 27) hC sc_0 fl_Ly_19 rfl d_Ly_word_27 ?_
    refine Y_iload_n (pc := 30) hC d_Ly_word_30 rfl 1 rfl ?_
    refine Y_iload_n (pc := 31) hC d_Ly_word_31 rfl 2 rfl ?_
    refine Y_iload_n (pc := 32) hC d_Ly_word_32 rfl 3 rfl ?_
    obtain ⟨r3, V3, hc_r3, h⟩ := cl_some h
    refine Y_callVv (pc := 33) hC (c_Se_write C.l C.D C.cI C.cZ C.a hc_r3) (fun _ => hw) sc_2 cls_Se ml_Ly_160 mv_Se_write (by decide) (Nat.le_of_ble_eq_true rfl) rfl d_Ly_word_33 ?_
    have h := inl_some h
    exact Y_vret (pc := 36) hC hE d_Ly_word_36 h
  · have h := ifp cc_9 h
    cases h
set_option maxHeartbeats 4000000 in
set_option maxRecDepth 100000 in
theorem t_Ly_word (l : Launch) (D : va_G) (cI cZ : ClassId) (a : Nat → Nat) (hN : NoTr l) {V : Sto} {p1 : Int32} {p2 : Int32} {p3 : Int32} {e : Nat} {V' : Sto} (h : f_Ly_word V p1 p2 p3 = some (.inr e, V')) : YMt l D cI cZ a shpC y_Ly_word b_Ly_word 4 (none) rmt_Ly_word [.ref (a 0), .int p1, .int p2, .int p3] V (exn e) := by
  refine YMt_of hN (by decide) (Nat.le_of_ble_eq_true rfl) ?_
  intro C hl hDD hcI hcZ ha hC hT
  subst hl hDD hcI hcZ ha
  show Y C shpC 4 0 [(0, .ref (C.a 0)), (1, .int p1), (2, .int p2), (3, .int p3)] [] V
  rw [f_Ly_word] at h
  refine Y_aload_n (pc := 0) hC d_Ly_word_0 rfl 0 rfl ?_
  refine Y_getR (pc := 1) hC sc_0 fl_Ly_19 rfl d_Ly_word_1 ?_
  refine Y_iload_n (pc := 4) hC d_Ly_word_4 rfl 1 rfl ?_
  refine Y_iload_n (pc := 5) hC d_Ly_word_5 rfl 2 rfl ?_
  obtain ⟨r1, V1, hc_r1, h⟩ := cl_some h
  refine Y_callV (pc := 6) hC (c_Se_hasWord C.l C.D C.cI C.cZ C.a hc_r1) (fun q => nomatch q) sc_2 cls_Se ml_Ly_155 mv_Se_hasWord (by decide) (Nat.le_of_ble_eq_true rfl) rfl d_Ly_word_6 ?_
  refine Y_if_ne (pc := 9) hC 22 d_Ly_word_9 rfl (fun cc_9 => ?_) (fun cc_9 => ?_)
  · have h := ifn cc_9 h
    obtain ⟨_, _, -, h⟩ := cl_some h
    obtain ⟨_, _, -, h⟩ := cl_some h
    cases h
  · have h := ifp cc_9 h
    cases h
    exact Y_throwW (pc := 12) (E := "java/lang/IllegalArgumentException") (tx := "no such word") (len := 2) (names := ["java/lang/RuntimeException", "java/lang/Exception"]) hC hT tok_Ly_112_108 (by decide) rfl (by decide) d_Ly_word_12 d_Ly_word_15 (Or.inl ⟨d_Ly_word_16, rfl⟩) d_Ly_word_18 d_Ly_word_21
set_option maxHeartbeats 4000000 in
set_option maxRecDepth 100000 in
theorem c_Ly_symbol (l : Launch) (D : va_G) (cI cZ : ClassId) (a : Nat → Nat) {V : Sto} {p1 : Int32} {p2 : Int32} {p3 : Int32} {p4 : Int32} {r : Int32} {V' : Sto} (h : f_Ly_symbol V p1 p2 p3 p4 = some (.inl r, V')) : YMi l D cI cZ a shpC y_Ly_symbol b_Ly_symbol 7 (some .int) rm_Ly_symbol true [.ref (a 0), .int p1, .int p2, .int p3, .int p4] V r V' := by
  refine YMi_of (by decide) (Nat.le_of_ble_eq_true rfl) ?_
  intro C hl hDD hcI hcZ ha hC hw hE
  subst hl hDD hcI hcZ ha
  show Y C shpC 7 0 [(0, .ref (C.a 0)), (1, .int p1), (2, .int p2), (3, .int p3), (4, .int p4)] [] V
  have hw := hw rfl
  rw [f_Ly_symbol] at h
  refine Y_aload_n (pc := 0) hC d_Ly_symbol_0 rfl 0 rfl ?_
  refine Y_getR (pc := 1) hC sc_0 fl_Ly_19 rfl d_Ly_symbol_1 ?_
  refine Y_iload_n (pc := 4) hC d_Ly_symbol_4 rfl 1 rfl ?_
  obtain ⟨r1, V1, hc_r1, h⟩ := cl_some h
  refine Y_callV (pc := 5) hC (c_Se_has C.l C.D C.cI C.cZ C.a hc_r1) (fun q => nomatch q) sc_2 cls_Se ml_Ly_164 mv_Se_has (by decide) (Nat.le_of_ble_eq_true rfl) rfl d_Ly_symbol_5 ?_
  refine Y_if_eq (pc := 8) hC 28 d_Ly_symbol_8 rfl (fun cc_8 => ?_) (fun cc_8 => ?_)
  · have h := ifp cc_8 h
    cases h
  · have h := ifn cc_8 h
    refine Y_iload_n (pc := 11) hC d_Ly_symbol_11 rfl 2 rfl ?_
    refine Y_if_lt (pc := 12) hC 28 d_Ly_symbol_12 rfl (fun cc_12 => ?_) (fun cc_12 => ?_)
    · have h := ifp cc_12 h
      cases h
    · have h := ifn cc_12 h
      refine Y_iload_n (pc := 15) hC d_Ly_symbol_15 rfl 2 rfl ?_
      refine Y_aload_n (pc := 16) hC d_Ly_symbol_16 rfl 0 rfl ?_
      refine Y_getR (pc := 17) hC sc_0 fl_Ly_19 rfl d_Ly_symbol_17 ?_
      refine Y_getR (pc := 20) hC sc_2 fl_Ly_165 rfl d_Ly_symbol_20 ?_
      refine Y_iload_n (pc := 23) hC d_Ly_symbol_23 rfl 1 rfl ?_
      obtain ⟨hi, h⟩ := ck_some h
      refine Y_iald (pc := 24) hC sc_17 rfl hi d_Ly_symbol_24 ?_
      refine Y_icmp_le (pc := 25) hC 38 d_Ly_symbol_25 rfl (fun cc_25 => ?_) (fun cc_25 => ?_)
      · have h := ifp cc_25 h
        refine Y_iload_n (pc := 38) hC d_Ly_symbol_38 rfl 3 rfl ?_
        obtain ⟨r2, V2, hc_r2, h⟩ := cl_some h
        refine Y_callS (pc := 39) hC (c_Ly_isName C.l C.D C.cI C.cZ C.a hc_r2) (fun q => nomatch q) ml_Ly_171 ms_Ly_isName (by decide) (Nat.le_of_ble_eq_true rfl) rfl d_Ly_symbol_39 ?_
        refine Y_if_eq (pc := 42) hC 56 d_Ly_symbol_42 rfl (fun cc_42 => ?_) (fun cc_42 => ?_)
        · have h := ifp cc_42 h
          cases h
        · have h := ifn cc_42 h
          refine Y_iload (pc := 45) hC d_Ly_symbol_45 4 rfl ?_
          refine Y_if_lt (pc := 47) hC 56 d_Ly_symbol_47 rfl (fun cc_47 => ?_) (fun cc_47 => ?_)
          · have h := ifp cc_47 h
            cases h
          · have h := ifn cc_47 h
            refine Y_iload (pc := 50) hC d_Ly_symbol_50 4 rfl ?_
            refine Y_iconst (pc := 52) hC d_Ly_symbol_52 ki_2 ?_
            refine Y_icmp_le (pc := 53) hC 66 d_Ly_symbol_53 rfl (fun cc_53 => ?_) (fun cc_53 => ?_)
            · have h := ifp cc_53 h
              refine Y_aload_n (pc := 66) hC d_Ly_symbol_66 rfl 0 rfl ?_
              refine Y_getR (pc := 67) hC sc_0 fl_Ly_19 rfl d_Ly_symbol_67 ?_
              refine Y_getR (pc := 70) hC sc_2 fl_Ly_176 rfl d_Ly_symbol_70 ?_
              refine Y_iload_n (pc := 73) hC d_Ly_symbol_73 rfl 1 rfl ?_
              obtain ⟨hi, h⟩ := ck_some h
              refine Y_iald (pc := 74) hC sc_15 rfl hi d_Ly_symbol_74 ?_
              refine Y_istore (pc := 75) hC (L' := [(5, .int (V2 15 p1.toNatClampNeg)), (0, .ref (C.a 0)), (1, .int p1), (2, .int p2), (3, .int p3), (4, .int p4)]) d_Ly_symbol_75 (by decide) rfl ?_
              refine Y_aload_n (pc := 77) hC d_Ly_symbol_77 rfl 1 rfl ?_
              refine Y_getR (pc := 78) hC sc_0 fl_Ly_26 rfl d_Ly_symbol_78 ?_
              refine Y_iload (pc := 81) hC d_Ly_symbol_81 0 rfl ?_
              refine Y_iload_n (pc := 83) hC d_Ly_symbol_83 rfl 4 rfl ?_
              refine Y_iload (pc := 84) hC d_Ly_symbol_84 5 rfl ?_
              obtain ⟨r3, V3, hc_r3, h⟩ := cl_some h
              refine Y_callV (pc := 86) hC (c_Sy_clashes C.l C.D C.cI C.cZ C.a hc_r3) (fun q => nomatch q) sc_3 cls_Sy ml_Ly_179 mv_Sy_clashes (by decide) (Nat.le_of_ble_eq_true rfl) rfl d_Ly_symbol_86 ?_
              refine Y_if_eq (pc := 89) hC 102 d_Ly_symbol_89 rfl (fun cc_89 => ?_) (fun cc_89 => ?_)
              · have h := ifp cc_89 h
                refine Y_aload_n (pc := 102) hC d_Ly_symbol_102 rfl 1 rfl ?_
                refine Y_getR (pc := 103) hC sc_0 fl_Ly_26 rfl d_Ly_symbol_103 ?_
                refine Y_getI (pc := 106) hC sc_3 fl_Ly_185 rfl d_Ly_symbol_106 ?_
                refine Y_sipush (pc := 109) hC d_Ly_symbol_109 ks_400 ?_
                refine Y_icmp_lt (pc := 112) hC 125 d_Ly_symbol_112 rfl (fun cc_112 => ?_) (fun cc_112 => ?_)
                · have h := ifp cc_112 h
                  refine Y_aload_n (pc := 125) hC d_Ly_symbol_125 rfl 1 rfl ?_
                  obtain ⟨r4, V4, hc_r4, h⟩ := cl_some h
                  refine Y_callVv (pc := 126) hC (c_Ly_takeLinkAway C.l C.D C.cI C.cZ C.a hc_r4) (fun _ => hw) sc_0 cls_Ly ml_Ly_123 mv_Ly_takeLinkAway (by decide) (Nat.le_of_ble_eq_true rfl) rfl d_Ly_symbol_126 ?_
                  refine Y_aload_n (pc := 129) hC d_Ly_symbol_129 rfl 1 rfl ?_
                  refine Y_getR (pc := 130) hC sc_0 fl_Ly_26 rfl d_Ly_symbol_130 ?_
                  refine Y_iload (pc := 133) hC d_Ly_symbol_133 0 rfl ?_
                  refine Y_iload_n (pc := 135) hC d_Ly_symbol_135 rfl 4 rfl ?_
                  refine Y_iload (pc := 136) hC d_Ly_symbol_136 5 rfl ?_
                  obtain ⟨r5, V5, hc_r5, h⟩ := cl_some h
                  refine Y_callV (pc := 138) hC (c_Sy_add C.l C.D C.cI C.cZ C.a hc_r5) (fun _ => hw) sc_3 cls_Sy ml_Ly_188 mv_Sy_add (by decide) (Nat.le_of_ble_eq_true rfl) rfl d_Ly_symbol_138 ?_
                  refine Y_istore (pc := 141) hC (L' := [(6, .int r5), (5, .int (V2 15 p1.toNatClampNeg)), (0, .ref (C.a 0)), (1, .int p1), (2, .int p2), (3, .int p3), (4, .int p4)]) d_Ly_symbol_141 (by decide) rfl ?_
                  refine Y_aload_n (pc := 143) hC d_Ly_symbol_143 rfl 2 rfl ?_
                  refine Y_getR (pc := 144) hC sc_0 fl_Ly_26 rfl d_Ly_symbol_144 ?_
                  refine Y_iload (pc := 147) hC d_Ly_symbol_147 0 rfl ?_
                  refine Y_iconst (pc := 149) hC d_Ly_symbol_149 ki_1 ?_
                  refine Y_iload_n (pc := 150) hC d_Ly_symbol_150 rfl 3 rfl ?_
                  refine Y_iload_n (pc := 151) hC d_Ly_symbol_151 rfl 4 rfl ?_
                  obtain ⟨r6, V6, hc_r6, h⟩ := cl_some h
                  refine Y_callVv (pc := 152) hC (c_Sy_define C.l C.D C.cI C.cZ C.a hc_r6) (fun _ => hw) sc_3 cls_Sy ml_Ly_191 mv_Sy_define (by decide) (Nat.le_of_ble_eq_true rfl) rfl d_Ly_symbol_152 ?_
                  refine Y_iload (pc := 155) hC d_Ly_symbol_155 0 rfl ?_
                  have h := inl_some h
                  exact Y_iret (pc := 157) hC hE d_Ly_symbol_157 h
                · have h := ifn cc_112 h
                  cases h
              · have h := ifn cc_89 h
                cases h
            · have h := ifn cc_53 h
              cases h
      · have h := ifn cc_25 h
        cases h
set_option maxHeartbeats 4000000 in
set_option maxRecDepth 100000 in
theorem t_Ly_symbol (l : Launch) (D : va_G) (cI cZ : ClassId) (a : Nat → Nat) (hN : NoTr l) {V : Sto} {p1 : Int32} {p2 : Int32} {p3 : Int32} {p4 : Int32} {e : Nat} {V' : Sto} (h : f_Ly_symbol V p1 p2 p3 p4 = some (.inr e, V')) : YMt l D cI cZ a shpC y_Ly_symbol b_Ly_symbol 7 (some .int) rmt_Ly_symbol [.ref (a 0), .int p1, .int p2, .int p3, .int p4] V (exn e) := by
  refine YMt_of hN (by decide) (Nat.le_of_ble_eq_true rfl) ?_
  intro C hl hDD hcI hcZ ha hC hT
  subst hl hDD hcI hcZ ha
  show Y C shpC 7 0 [(0, .ref (C.a 0)), (1, .int p1), (2, .int p2), (3, .int p3), (4, .int p4)] [] V
  rw [f_Ly_symbol] at h
  refine Y_aload_n (pc := 0) hC d_Ly_symbol_0 rfl 0 rfl ?_
  refine Y_getR (pc := 1) hC sc_0 fl_Ly_19 rfl d_Ly_symbol_1 ?_
  refine Y_iload_n (pc := 4) hC d_Ly_symbol_4 rfl 1 rfl ?_
  obtain ⟨r1, V1, hc_r1, h⟩ := cl_some h
  refine Y_callV (pc := 5) hC (c_Se_has C.l C.D C.cI C.cZ C.a hc_r1) (fun q => nomatch q) sc_2 cls_Se ml_Ly_164 mv_Se_has (by decide) (Nat.le_of_ble_eq_true rfl) rfl d_Ly_symbol_5 ?_
  refine Y_if_eq (pc := 8) hC 28 d_Ly_symbol_8 rfl (fun cc_8 => ?_) (fun cc_8 => ?_)
  · have h := ifp cc_8 h
    cases h
    exact Y_throwW (pc := 28) (E := "java/lang/IllegalArgumentException") (tx := "no such section or place") (len := 2) (names := ["java/lang/RuntimeException", "java/lang/Exception"]) hC hT tok_Ly_112_108 (by decide) rfl (by decide) d_Ly_symbol_28 d_Ly_symbol_31 (Or.inl ⟨d_Ly_symbol_32, rfl⟩) d_Ly_symbol_34 d_Ly_symbol_37
  · have h := ifn cc_8 h
    refine Y_iload_n (pc := 11) hC d_Ly_symbol_11 rfl 2 rfl ?_
    refine Y_if_lt (pc := 12) hC 28 d_Ly_symbol_12 rfl (fun cc_12 => ?_) (fun cc_12 => ?_)
    · have h := ifp cc_12 h
      cases h
      exact Y_throwW (pc := 28) (E := "java/lang/IllegalArgumentException") (tx := "no such section or place") (len := 2) (names := ["java/lang/RuntimeException", "java/lang/Exception"]) hC hT tok_Ly_112_108 (by decide) rfl (by decide) d_Ly_symbol_28 d_Ly_symbol_31 (Or.inl ⟨d_Ly_symbol_32, rfl⟩) d_Ly_symbol_34 d_Ly_symbol_37
    · have h := ifn cc_12 h
      refine Y_iload_n (pc := 15) hC d_Ly_symbol_15 rfl 2 rfl ?_
      refine Y_aload_n (pc := 16) hC d_Ly_symbol_16 rfl 0 rfl ?_
      refine Y_getR (pc := 17) hC sc_0 fl_Ly_19 rfl d_Ly_symbol_17 ?_
      refine Y_getR (pc := 20) hC sc_2 fl_Ly_165 rfl d_Ly_symbol_20 ?_
      refine Y_iload_n (pc := 23) hC d_Ly_symbol_23 rfl 1 rfl ?_
      obtain ⟨hi, h⟩ := ck_some h
      refine Y_iald (pc := 24) hC sc_17 rfl hi d_Ly_symbol_24 ?_
      refine Y_icmp_le (pc := 25) hC 38 d_Ly_symbol_25 rfl (fun cc_25 => ?_) (fun cc_25 => ?_)
      · have h := ifp cc_25 h
        refine Y_iload_n (pc := 38) hC d_Ly_symbol_38 rfl 3 rfl ?_
        obtain ⟨r2, V2, hc_r2, h⟩ := cl_some h
        refine Y_callS (pc := 39) hC (c_Ly_isName C.l C.D C.cI C.cZ C.a hc_r2) (fun q => nomatch q) ml_Ly_171 ms_Ly_isName (by decide) (Nat.le_of_ble_eq_true rfl) rfl d_Ly_symbol_39 ?_
        refine Y_if_eq (pc := 42) hC 56 d_Ly_symbol_42 rfl (fun cc_42 => ?_) (fun cc_42 => ?_)
        · have h := ifp cc_42 h
          cases h
          exact Y_throwW (pc := 56) (E := "java/lang/IllegalArgumentException") (tx := "no such name or binding") (len := 2) (names := ["java/lang/RuntimeException", "java/lang/Exception"]) hC hT tok_Ly_112_108 (by decide) rfl (by decide) d_Ly_symbol_56 d_Ly_symbol_59 (Or.inl ⟨d_Ly_symbol_60, rfl⟩) d_Ly_symbol_62 d_Ly_symbol_65
        · have h := ifn cc_42 h
          refine Y_iload (pc := 45) hC d_Ly_symbol_45 4 rfl ?_
          refine Y_if_lt (pc := 47) hC 56 d_Ly_symbol_47 rfl (fun cc_47 => ?_) (fun cc_47 => ?_)
          · have h := ifp cc_47 h
            cases h
            exact Y_throwW (pc := 56) (E := "java/lang/IllegalArgumentException") (tx := "no such name or binding") (len := 2) (names := ["java/lang/RuntimeException", "java/lang/Exception"]) hC hT tok_Ly_112_108 (by decide) rfl (by decide) d_Ly_symbol_56 d_Ly_symbol_59 (Or.inl ⟨d_Ly_symbol_60, rfl⟩) d_Ly_symbol_62 d_Ly_symbol_65
          · have h := ifn cc_47 h
            refine Y_iload (pc := 50) hC d_Ly_symbol_50 4 rfl ?_
            refine Y_iconst (pc := 52) hC d_Ly_symbol_52 ki_2 ?_
            refine Y_icmp_le (pc := 53) hC 66 d_Ly_symbol_53 rfl (fun cc_53 => ?_) (fun cc_53 => ?_)
            · have h := ifp cc_53 h
              refine Y_aload_n (pc := 66) hC d_Ly_symbol_66 rfl 0 rfl ?_
              refine Y_getR (pc := 67) hC sc_0 fl_Ly_19 rfl d_Ly_symbol_67 ?_
              refine Y_getR (pc := 70) hC sc_2 fl_Ly_176 rfl d_Ly_symbol_70 ?_
              refine Y_iload_n (pc := 73) hC d_Ly_symbol_73 rfl 1 rfl ?_
              obtain ⟨hi, h⟩ := ck_some h
              refine Y_iald (pc := 74) hC sc_15 rfl hi d_Ly_symbol_74 ?_
              refine Y_istore (pc := 75) hC (L' := [(5, .int (V2 15 p1.toNatClampNeg)), (0, .ref (C.a 0)), (1, .int p1), (2, .int p2), (3, .int p3), (4, .int p4)]) d_Ly_symbol_75 (by decide) rfl ?_
              refine Y_aload_n (pc := 77) hC d_Ly_symbol_77 rfl 1 rfl ?_
              refine Y_getR (pc := 78) hC sc_0 fl_Ly_26 rfl d_Ly_symbol_78 ?_
              refine Y_iload (pc := 81) hC d_Ly_symbol_81 0 rfl ?_
              refine Y_iload_n (pc := 83) hC d_Ly_symbol_83 rfl 4 rfl ?_
              refine Y_iload (pc := 84) hC d_Ly_symbol_84 5 rfl ?_
              obtain ⟨r3, V3, hc_r3, h⟩ := cl_some h
              refine Y_callV (pc := 86) hC (c_Sy_clashes C.l C.D C.cI C.cZ C.a hc_r3) (fun q => nomatch q) sc_3 cls_Sy ml_Ly_179 mv_Sy_clashes (by decide) (Nat.le_of_ble_eq_true rfl) rfl d_Ly_symbol_86 ?_
              refine Y_if_eq (pc := 89) hC 102 d_Ly_symbol_89 rfl (fun cc_89 => ?_) (fun cc_89 => ?_)
              · have h := ifp cc_89 h
                refine Y_aload_n (pc := 102) hC d_Ly_symbol_102 rfl 1 rfl ?_
                refine Y_getR (pc := 103) hC sc_0 fl_Ly_26 rfl d_Ly_symbol_103 ?_
                refine Y_getI (pc := 106) hC sc_3 fl_Ly_185 rfl d_Ly_symbol_106 ?_
                refine Y_sipush (pc := 109) hC d_Ly_symbol_109 ks_400 ?_
                refine Y_icmp_lt (pc := 112) hC 125 d_Ly_symbol_112 rfl (fun cc_112 => ?_) (fun cc_112 => ?_)
                · have h := ifp cc_112 h
                  obtain ⟨_, _, -, h⟩ := cl_some h
                  obtain ⟨_, _, -, h⟩ := cl_some h
                  obtain ⟨_, _, -, h⟩ := cl_some h
                  cases h
                · have h := ifn cc_112 h
                  cases h
                  exact Y_throwW (pc := 115) (E := "java/lang/UnsupportedOperationException") (tx := "too many symbols") (len := 2) (names := ["java/lang/RuntimeException", "java/lang/Exception"]) hC hT tok_Ly_122_118 (by decide) rfl (by decide) d_Ly_symbol_115 d_Ly_symbol_118 (Or.inl ⟨d_Ly_symbol_119, rfl⟩) d_Ly_symbol_121 d_Ly_symbol_124
              · have h := ifn cc_89 h
                cases h
                exact Y_throwW (pc := 92) (E := "java/lang/IllegalArgumentException") (tx := "the unit has that name already") (len := 2) (names := ["java/lang/RuntimeException", "java/lang/Exception"]) hC hT tok_Ly_112_108 (by decide) rfl (by decide) d_Ly_symbol_92 d_Ly_symbol_95 (Or.inl ⟨d_Ly_symbol_96, rfl⟩) d_Ly_symbol_98 d_Ly_symbol_101
            · have h := ifn cc_53 h
              cases h
              exact Y_throwW (pc := 56) (E := "java/lang/IllegalArgumentException") (tx := "no such name or binding") (len := 2) (names := ["java/lang/RuntimeException", "java/lang/Exception"]) hC hT tok_Ly_112_108 (by decide) rfl (by decide) d_Ly_symbol_56 d_Ly_symbol_59 (Or.inl ⟨d_Ly_symbol_60, rfl⟩) d_Ly_symbol_62 d_Ly_symbol_65
      · have h := ifn cc_25 h
        cases h
        exact Y_throwW (pc := 28) (E := "java/lang/IllegalArgumentException") (tx := "no such section or place") (len := 2) (names := ["java/lang/RuntimeException", "java/lang/Exception"]) hC hT tok_Ly_112_108 (by decide) rfl (by decide) d_Ly_symbol_28 d_Ly_symbol_31 (Or.inl ⟨d_Ly_symbol_32, rfl⟩) d_Ly_symbol_34 d_Ly_symbol_37
set_option maxHeartbeats 4000000 in
set_option maxRecDepth 100000 in
theorem c_Ly_other (l : Launch) (D : va_G) (cI cZ : ClassId) (a : Nat → Nat) {V : Sto} {p1 : Int32} {p2 : Int32} {p3 : Int32} {p4 : Int32} {p5 : Int32} {r : Int32} {V' : Sto} (h : f_Ly_other V p1 p2 p3 p4 p5 = some (.inl r, V')) : YMi l D cI cZ a shpC y_Ly_other b_Ly_other 7 (some .int) rm_Ly_other true [.ref (a 0), .int p1, .int p2, .int p3, .int p4, .int p5] V r V' := by
  refine YMi_of (by decide) (Nat.le_of_ble_eq_true rfl) ?_
  intro C hl hDD hcI hcZ ha hC hw hE
  subst hl hDD hcI hcZ ha
  show Y C shpC 7 0 [(0, .ref (C.a 0)), (1, .int p1), (2, .int p2), (3, .int p3), (4, .int p4), (5, .int p5)] [] V
  have hw := hw rfl
  rw [f_Ly_other] at h
  refine Y_aload_n (pc := 0) hC d_Ly_other_0 rfl 0 rfl ?_
  refine Y_getR (pc := 1) hC sc_0 fl_Ly_10 rfl d_Ly_other_1 ?_
  refine Y_iload_n (pc := 4) hC d_Ly_other_4 rfl 1 rfl ?_
  obtain ⟨r1, V1, hc_r1, h⟩ := cl_some h
  refine Y_callV (pc := 5) hC (c_Un_has C.l C.D C.cI C.cZ C.a hc_r1) (fun q => nomatch q) sc_1 cls_Un ml_Ly_130 mv_Un_has (by decide) (Nat.le_of_ble_eq_true rfl) rfl d_Ly_other_5 ?_
  refine Y_if_eq (pc := 8) hC 29 d_Ly_other_8 rfl (fun cc_8 => ?_) (fun cc_8 => ?_)
  · have h := ifp cc_8 h
    cases h
  · have h := ifn cc_8 h
    refine Y_iload_n (pc := 11) hC d_Ly_other_11 rfl 2 rfl ?_
    refine Y_iload_n (pc := 12) hC d_Ly_other_12 rfl 3 rfl ?_
    refine Y_iload (pc := 13) hC d_Ly_other_13 5 rfl ?_
    obtain ⟨r2, V2, hc_r2, h⟩ := cl_some h
    refine Y_callS (pc := 15) hC (c_Ly_isOther C.l C.D C.cI C.cZ C.a hc_r2) (fun q => nomatch q) ml_Ly_195 ms_Ly_isOther (by decide) (Nat.le_of_ble_eq_true rfl) rfl d_Ly_other_15 ?_
    refine Y_if_eq (pc := 18) hC 29 d_Ly_other_18 rfl (fun cc_18 => ?_) (fun cc_18 => ?_)
    · have h := ifp cc_18 h
      cases h
    · have h := ifn cc_18 h
      refine Y_iload (pc := 21) hC d_Ly_other_21 4 rfl ?_
      obtain ⟨r3, V3, hc_r3, h⟩ := cl_some h
      refine Y_callS (pc := 23) hC (c_Ly_isName C.l C.D C.cI C.cZ C.a hc_r3) (fun q => nomatch q) ml_Ly_171 ms_Ly_isName (by decide) (Nat.le_of_ble_eq_true rfl) rfl d_Ly_other_23 ?_
      refine Y_if_ne (pc := 26) hC 39 d_Ly_other_26 rfl (fun cc_26 => ?_) (fun cc_26 => ?_)
      · have h := ifn cc_26 h
        refine Y_aload_n (pc := 39) hC d_Ly_other_39 rfl 0 rfl ?_
        refine Y_getR (pc := 40) hC sc_0 fl_Ly_26 rfl d_Ly_other_40 ?_
        refine Y_iload_n (pc := 43) hC d_Ly_other_43 rfl 1 rfl ?_
        refine Y_iload (pc := 44) hC d_Ly_other_44 4 rfl ?_
        refine Y_iload (pc := 46) hC d_Ly_other_46 5 rfl ?_
        obtain ⟨r4, V4, hc_r4, h⟩ := cl_some h
        refine Y_callV (pc := 48) hC (c_Sy_clashes C.l C.D C.cI C.cZ C.a hc_r4) (fun q => nomatch q) sc_3 cls_Sy ml_Ly_179 mv_Sy_clashes (by decide) (Nat.le_of_ble_eq_true rfl) rfl d_Ly_other_48 ?_
        refine Y_if_eq (pc := 51) hC 64 d_Ly_other_51 rfl (fun cc_51 => ?_) (fun cc_51 => ?_)
        · have h := ifp cc_51 h
          refine Y_aload_n (pc := 64) hC d_Ly_other_64 rfl 0 rfl ?_
          refine Y_getR (pc := 65) hC sc_0 fl_Ly_26 rfl d_Ly_other_65 ?_
          refine Y_getI (pc := 68) hC sc_3 fl_Ly_185 rfl d_Ly_other_68 ?_
          refine Y_sipush (pc := 71) hC d_Ly_other_71 ks_400 ?_
          refine Y_icmp_lt (pc := 74) hC 87 d_Ly_other_74 rfl (fun cc_74 => ?_) (fun cc_74 => ?_)
          · have h := ifp cc_74 h
            refine Y_aload_n (pc := 87) hC d_Ly_other_87 rfl 0 rfl ?_
            obtain ⟨r5, V5, hc_r5, h⟩ := cl_some h
            refine Y_callVv (pc := 88) hC (c_Ly_takeLinkAway C.l C.D C.cI C.cZ C.a hc_r5) (fun _ => hw) sc_0 cls_Ly ml_Ly_123 mv_Ly_takeLinkAway (by decide) (Nat.le_of_ble_eq_true rfl) rfl d_Ly_other_88 ?_
            refine Y_aload_n (pc := 91) hC d_Ly_other_91 rfl 0 rfl ?_
            refine Y_getR (pc := 92) hC sc_0 fl_Ly_26 rfl d_Ly_other_92 ?_
            refine Y_iload_n (pc := 95) hC d_Ly_other_95 rfl 1 rfl ?_
            refine Y_iload (pc := 96) hC d_Ly_other_96 4 rfl ?_
            refine Y_iload (pc := 98) hC d_Ly_other_98 5 rfl ?_
            obtain ⟨r6, V6, hc_r6, h⟩ := cl_some h
            refine Y_callV (pc := 100) hC (c_Sy_add C.l C.D C.cI C.cZ C.a hc_r6) (fun _ => hw) sc_3 cls_Sy ml_Ly_188 mv_Sy_add (by decide) (Nat.le_of_ble_eq_true rfl) rfl d_Ly_other_100 ?_
            refine Y_istore (pc := 103) hC (L' := [(6, .int r6), (0, .ref (C.a 0)), (1, .int p1), (2, .int p2), (3, .int p3), (4, .int p4), (5, .int p5)]) d_Ly_other_103 (by decide) rfl ?_
            refine Y_aload_n (pc := 105) hC d_Ly_other_105 rfl 1 rfl ?_
            refine Y_getR (pc := 106) hC sc_0 fl_Ly_26 rfl d_Ly_other_106 ?_
            refine Y_iload (pc := 109) hC d_Ly_other_109 0 rfl ?_
            refine Y_iload_n (pc := 111) hC d_Ly_other_111 rfl 3 rfl ?_
            obtain ⟨r7, V7, hc_r7, h⟩ := cl_some h
            refine Y_callS (pc := 112) hC (c_Ly_formOfOther C.l C.D C.cI C.cZ C.a hc_r7) (fun q => nomatch q) ml_Ly_200 ms_Ly_formOfOther (by decide) (Nat.le_of_ble_eq_true rfl) rfl d_Ly_other_112 ?_
            refine Y_iconst (pc := 115) hC d_Ly_other_115 ki_m1 ?_
            refine Y_iload_n (pc := 116) hC d_Ly_other_116 rfl 4 rfl ?_
            obtain ⟨r8, V8, hc_r8, h⟩ := cl_some h
            refine Y_callVv (pc := 117) hC (c_Sy_define C.l C.D C.cI C.cZ C.a hc_r8) (fun _ => hw) sc_3 cls_Sy ml_Ly_191 mv_Sy_define (by decide) (Nat.le_of_ble_eq_true rfl) rfl d_Ly_other_117 ?_
            refine Y_iload (pc := 120) hC d_Ly_other_120 0 rfl ?_
            have h := inl_some h
            exact Y_iret (pc := 122) hC hE d_Ly_other_122 h
          · have h := ifn cc_74 h
            cases h
        · have h := ifn cc_51 h
          cases h
      · have h := ifp cc_26 h
        cases h
set_option maxHeartbeats 4000000 in
set_option maxRecDepth 100000 in
theorem t_Ly_other (l : Launch) (D : va_G) (cI cZ : ClassId) (a : Nat → Nat) (hN : NoTr l) {V : Sto} {p1 : Int32} {p2 : Int32} {p3 : Int32} {p4 : Int32} {p5 : Int32} {e : Nat} {V' : Sto} (h : f_Ly_other V p1 p2 p3 p4 p5 = some (.inr e, V')) : YMt l D cI cZ a shpC y_Ly_other b_Ly_other 7 (some .int) rmt_Ly_other [.ref (a 0), .int p1, .int p2, .int p3, .int p4, .int p5] V (exn e) := by
  refine YMt_of hN (by decide) (Nat.le_of_ble_eq_true rfl) ?_
  intro C hl hDD hcI hcZ ha hC hT
  subst hl hDD hcI hcZ ha
  show Y C shpC 7 0 [(0, .ref (C.a 0)), (1, .int p1), (2, .int p2), (3, .int p3), (4, .int p4), (5, .int p5)] [] V
  rw [f_Ly_other] at h
  refine Y_aload_n (pc := 0) hC d_Ly_other_0 rfl 0 rfl ?_
  refine Y_getR (pc := 1) hC sc_0 fl_Ly_10 rfl d_Ly_other_1 ?_
  refine Y_iload_n (pc := 4) hC d_Ly_other_4 rfl 1 rfl ?_
  obtain ⟨r1, V1, hc_r1, h⟩ := cl_some h
  refine Y_callV (pc := 5) hC (c_Un_has C.l C.D C.cI C.cZ C.a hc_r1) (fun q => nomatch q) sc_1 cls_Un ml_Ly_130 mv_Un_has (by decide) (Nat.le_of_ble_eq_true rfl) rfl d_Ly_other_5 ?_
  refine Y_if_eq (pc := 8) hC 29 d_Ly_other_8 rfl (fun cc_8 => ?_) (fun cc_8 => ?_)
  · have h := ifp cc_8 h
    cases h
    exact Y_throwW (pc := 29) (E := "java/lang/IllegalArgumentException") (tx := "no such unit, sort, binding, name or size") (len := 2) (names := ["java/lang/RuntimeException", "java/lang/Exception"]) hC hT tok_Ly_112_108 (by decide) rfl (by decide) d_Ly_other_29 d_Ly_other_32 (Or.inl ⟨d_Ly_other_33, rfl⟩) d_Ly_other_35 d_Ly_other_38
  · have h := ifn cc_8 h
    refine Y_iload_n (pc := 11) hC d_Ly_other_11 rfl 2 rfl ?_
    refine Y_iload_n (pc := 12) hC d_Ly_other_12 rfl 3 rfl ?_
    refine Y_iload (pc := 13) hC d_Ly_other_13 5 rfl ?_
    obtain ⟨r2, V2, hc_r2, h⟩ := cl_some h
    refine Y_callS (pc := 15) hC (c_Ly_isOther C.l C.D C.cI C.cZ C.a hc_r2) (fun q => nomatch q) ml_Ly_195 ms_Ly_isOther (by decide) (Nat.le_of_ble_eq_true rfl) rfl d_Ly_other_15 ?_
    refine Y_if_eq (pc := 18) hC 29 d_Ly_other_18 rfl (fun cc_18 => ?_) (fun cc_18 => ?_)
    · have h := ifp cc_18 h
      cases h
      exact Y_throwW (pc := 29) (E := "java/lang/IllegalArgumentException") (tx := "no such unit, sort, binding, name or size") (len := 2) (names := ["java/lang/RuntimeException", "java/lang/Exception"]) hC hT tok_Ly_112_108 (by decide) rfl (by decide) d_Ly_other_29 d_Ly_other_32 (Or.inl ⟨d_Ly_other_33, rfl⟩) d_Ly_other_35 d_Ly_other_38
    · have h := ifn cc_18 h
      refine Y_iload (pc := 21) hC d_Ly_other_21 4 rfl ?_
      obtain ⟨r3, V3, hc_r3, h⟩ := cl_some h
      refine Y_callS (pc := 23) hC (c_Ly_isName C.l C.D C.cI C.cZ C.a hc_r3) (fun q => nomatch q) ml_Ly_171 ms_Ly_isName (by decide) (Nat.le_of_ble_eq_true rfl) rfl d_Ly_other_23 ?_
      refine Y_if_ne (pc := 26) hC 39 d_Ly_other_26 rfl (fun cc_26 => ?_) (fun cc_26 => ?_)
      · have h := ifn cc_26 h
        refine Y_aload_n (pc := 39) hC d_Ly_other_39 rfl 0 rfl ?_
        refine Y_getR (pc := 40) hC sc_0 fl_Ly_26 rfl d_Ly_other_40 ?_
        refine Y_iload_n (pc := 43) hC d_Ly_other_43 rfl 1 rfl ?_
        refine Y_iload (pc := 44) hC d_Ly_other_44 4 rfl ?_
        refine Y_iload (pc := 46) hC d_Ly_other_46 5 rfl ?_
        obtain ⟨r4, V4, hc_r4, h⟩ := cl_some h
        refine Y_callV (pc := 48) hC (c_Sy_clashes C.l C.D C.cI C.cZ C.a hc_r4) (fun q => nomatch q) sc_3 cls_Sy ml_Ly_179 mv_Sy_clashes (by decide) (Nat.le_of_ble_eq_true rfl) rfl d_Ly_other_48 ?_
        refine Y_if_eq (pc := 51) hC 64 d_Ly_other_51 rfl (fun cc_51 => ?_) (fun cc_51 => ?_)
        · have h := ifp cc_51 h
          refine Y_aload_n (pc := 64) hC d_Ly_other_64 rfl 0 rfl ?_
          refine Y_getR (pc := 65) hC sc_0 fl_Ly_26 rfl d_Ly_other_65 ?_
          refine Y_getI (pc := 68) hC sc_3 fl_Ly_185 rfl d_Ly_other_68 ?_
          refine Y_sipush (pc := 71) hC d_Ly_other_71 ks_400 ?_
          refine Y_icmp_lt (pc := 74) hC 87 d_Ly_other_74 rfl (fun cc_74 => ?_) (fun cc_74 => ?_)
          · have h := ifp cc_74 h
            obtain ⟨_, _, -, h⟩ := cl_some h
            obtain ⟨_, _, -, h⟩ := cl_some h
            obtain ⟨_, _, -, h⟩ := cl_some h
            obtain ⟨_, _, -, h⟩ := cl_some h
            cases h
          · have h := ifn cc_74 h
            cases h
            exact Y_throwW (pc := 77) (E := "java/lang/UnsupportedOperationException") (tx := "too many symbols") (len := 2) (names := ["java/lang/RuntimeException", "java/lang/Exception"]) hC hT tok_Ly_122_118 (by decide) rfl (by decide) d_Ly_other_77 d_Ly_other_80 (Or.inl ⟨d_Ly_other_81, rfl⟩) d_Ly_other_83 d_Ly_other_86
        · have h := ifn cc_51 h
          cases h
          exact Y_throwW (pc := 54) (E := "java/lang/IllegalArgumentException") (tx := "the unit has that name already") (len := 2) (names := ["java/lang/RuntimeException", "java/lang/Exception"]) hC hT tok_Ly_112_108 (by decide) rfl (by decide) d_Ly_other_54 d_Ly_other_57 (Or.inl ⟨d_Ly_other_58, rfl⟩) d_Ly_other_60 d_Ly_other_63
      · have h := ifp cc_26 h
        cases h
        exact Y_throwW (pc := 29) (E := "java/lang/IllegalArgumentException") (tx := "no such unit, sort, binding, name or size") (len := 2) (names := ["java/lang/RuntimeException", "java/lang/Exception"]) hC hT tok_Ly_112_108 (by decide) rfl (by decide) d_Ly_other_29 d_Ly_other_32 (Or.inl ⟨d_Ly_other_33, rfl⟩) d_Ly_other_35 d_Ly_other_38
set_option maxHeartbeats 4000000 in
set_option maxRecDepth 100000 in
theorem c_Ly_relocation (l : Launch) (D : va_G) (cI cZ : ClassId) (a : Nat → Nat) {V : Sto} {p1 : Int32} {p2 : Int32} {p3 : Int32} {p4 : Int32} {p5 : Int32} {r : Int32} {V' : Sto} (h : f_Ly_relocation V p1 p2 p3 p4 p5 = some (.inl r, V')) : YMi l D cI cZ a shpC y_Ly_relocation b_Ly_relocation 6 (some .int) rm_Ly_relocation true [.ref (a 0), .int p1, .int p2, .int p3, .int p4, .int p5] V r V' := by
  refine YMi_of (by decide) (Nat.le_of_ble_eq_true rfl) ?_
  intro C hl hDD hcI hcZ ha hC hw hE
  subst hl hDD hcI hcZ ha
  show Y C shpC 6 0 [(0, .ref (C.a 0)), (1, .int p1), (2, .int p2), (3, .int p3), (4, .int p4), (5, .int p5)] [] V
  have hw := hw rfl
  rw [f_Ly_relocation] at h
  refine Y_aload_n (pc := 0) hC d_Ly_relocation_0 rfl 0 rfl ?_
  refine Y_getR (pc := 1) hC sc_0 fl_Ly_19 rfl d_Ly_relocation_1 ?_
  refine Y_iload_n (pc := 4) hC d_Ly_relocation_4 rfl 1 rfl ?_
  refine Y_iload_n (pc := 5) hC d_Ly_relocation_5 rfl 2 rfl ?_
  obtain ⟨r1, V1, hc_r1, h⟩ := cl_some h
  refine Y_callV (pc := 6) hC (c_Se_hasWord C.l C.D C.cI C.cZ C.a hc_r1) (fun q => nomatch q) sc_2 cls_Se ml_Ly_155 mv_Se_hasWord (by decide) (Nat.le_of_ble_eq_true rfl) rfl d_Ly_relocation_6 ?_
  refine Y_if_eq (pc := 9) hC 21 d_Ly_relocation_9 rfl (fun cc_9 => ?_) (fun cc_9 => ?_)
  · have h := ifp cc_9 h
    cases h
  · have h := ifn cc_9 h
    refine Y_iload_n (pc := 12) hC d_Ly_relocation_12 rfl 3 rfl ?_
    refine Y_if_lt (pc := 13) hC 21 d_Ly_relocation_13 rfl (fun cc_13 => ?_) (fun cc_13 => ?_)
    · have h := ifp cc_13 h
      cases h
    · have h := ifn cc_13 h
      refine Y_iload_n (pc := 16) hC d_Ly_relocation_16 rfl 3 rfl ?_
      refine Y_iconst (pc := 17) hC d_Ly_relocation_17 ki_5 ?_
      refine Y_icmp_le (pc := 18) hC 31 d_Ly_relocation_18 rfl (fun cc_18 => ?_) (fun cc_18 => ?_)
      · have h := ifp cc_18 h
        refine Y_aload_n (pc := 31) hC d_Ly_relocation_31 rfl 0 rfl ?_
        refine Y_getR (pc := 32) hC sc_0 fl_Ly_26 rfl d_Ly_relocation_32 ?_
        refine Y_iload (pc := 35) hC d_Ly_relocation_35 4 rfl ?_
        obtain ⟨r2, V2, hc_r2, h⟩ := cl_some h
        refine Y_callV (pc := 37) hC (c_Sy_has C.l C.D C.cI C.cZ C.a hc_r2) (fun q => nomatch q) sc_3 cls_Sy ml_Ly_205 mv_Sy_has (by decide) (Nat.le_of_ble_eq_true rfl) rfl d_Ly_relocation_37 ?_
        refine Y_if_eq (pc := 40) hC 65 d_Ly_relocation_40 rfl (fun cc_40 => ?_) (fun cc_40 => ?_)
        · have h := ifp cc_40 h
          cases h
        · have h := ifn cc_40 h
          refine Y_aload_n (pc := 43) hC d_Ly_relocation_43 rfl 0 rfl ?_
          refine Y_getR (pc := 44) hC sc_0 fl_Ly_26 rfl d_Ly_relocation_44 ?_
          refine Y_getR (pc := 47) hC sc_3 fl_Ly_206 rfl d_Ly_relocation_47 ?_
          refine Y_iload (pc := 50) hC d_Ly_relocation_50 4 rfl ?_
          obtain ⟨hi, h⟩ := ck_some h
          refine Y_iald (pc := 52) hC sc_21 rfl hi d_Ly_relocation_52 ?_
          refine Y_aload_n (pc := 53) hC d_Ly_relocation_53 rfl 0 rfl ?_
          refine Y_getR (pc := 54) hC sc_0 fl_Ly_19 rfl d_Ly_relocation_54 ?_
          refine Y_getR (pc := 57) hC sc_2 fl_Ly_176 rfl d_Ly_relocation_57 ?_
          refine Y_iload_n (pc := 60) hC d_Ly_relocation_60 rfl 1 rfl ?_
          obtain ⟨hi, h⟩ := ck_some h
          refine Y_iald (pc := 61) hC sc_15 rfl hi d_Ly_relocation_61 ?_
          refine Y_icmp_eq (pc := 62) hC 75 d_Ly_relocation_62 rfl (fun cc_62 => ?_) (fun cc_62 => ?_)
          · have h := ifp cc_62 h
            refine Y_aload_n (pc := 75) hC d_Ly_relocation_75 rfl 0 rfl ?_
            refine Y_getR (pc := 76) hC sc_0 fl_Ly_33 rfl d_Ly_relocation_76 ?_
            refine Y_getI (pc := 79) hC sc_4 fl_Ly_209 rfl d_Ly_relocation_79 ?_
            refine Y_sipush (pc := 82) hC d_Ly_relocation_82 ks_600 ?_
            refine Y_icmp_lt (pc := 85) hC 98 d_Ly_relocation_85 rfl (fun cc_85 => ?_) (fun cc_85 => ?_)
            · have h := ifp cc_85 h
              refine Y_aload_n (pc := 98) hC d_Ly_relocation_98 rfl 0 rfl ?_
              obtain ⟨r3, V3, hc_r3, h⟩ := cl_some h
              refine Y_callVv (pc := 99) hC (c_Ly_takeLinkAway C.l C.D C.cI C.cZ C.a hc_r3) (fun _ => hw) sc_0 cls_Ly ml_Ly_123 mv_Ly_takeLinkAway (by decide) (Nat.le_of_ble_eq_true rfl) rfl d_Ly_relocation_99 ?_
              refine Y_aload_n (pc := 102) hC d_Ly_relocation_102 rfl 0 rfl ?_
              refine Y_getR (pc := 103) hC sc_0 fl_Ly_33 rfl d_Ly_relocation_103 ?_
              refine Y_iload_n (pc := 106) hC d_Ly_relocation_106 rfl 1 rfl ?_
              refine Y_iload_n (pc := 107) hC d_Ly_relocation_107 rfl 2 rfl ?_
              refine Y_iload_n (pc := 108) hC d_Ly_relocation_108 rfl 3 rfl ?_
              refine Y_iload (pc := 109) hC d_Ly_relocation_109 4 rfl ?_
              refine Y_iload (pc := 111) hC d_Ly_relocation_111 5 rfl ?_
              obtain ⟨r4, V4, hc_r4, h⟩ := cl_some h
              refine Y_callV (pc := 113) hC (c_Re_add C.l C.D C.cI C.cZ C.a hc_r4) (fun _ => hw) sc_4 cls_Re ml_Ly_212 mv_Re_add (by decide) (Nat.le_of_ble_eq_true rfl) rfl d_Ly_relocation_113 ?_
              have h := inl_some h
              exact Y_iret (pc := 116) hC hE d_Ly_relocation_116 h
            · have h := ifn cc_85 h
              cases h
          · have h := ifn cc_62 h
            cases h
      · have h := ifn cc_18 h
        cases h
set_option maxHeartbeats 4000000 in
set_option maxRecDepth 100000 in
theorem t_Ly_relocation (l : Launch) (D : va_G) (cI cZ : ClassId) (a : Nat → Nat) (hN : NoTr l) {V : Sto} {p1 : Int32} {p2 : Int32} {p3 : Int32} {p4 : Int32} {p5 : Int32} {e : Nat} {V' : Sto} (h : f_Ly_relocation V p1 p2 p3 p4 p5 = some (.inr e, V')) : YMt l D cI cZ a shpC y_Ly_relocation b_Ly_relocation 6 (some .int) rmt_Ly_relocation [.ref (a 0), .int p1, .int p2, .int p3, .int p4, .int p5] V (exn e) := by
  refine YMt_of hN (by decide) (Nat.le_of_ble_eq_true rfl) ?_
  intro C hl hDD hcI hcZ ha hC hT
  subst hl hDD hcI hcZ ha
  show Y C shpC 6 0 [(0, .ref (C.a 0)), (1, .int p1), (2, .int p2), (3, .int p3), (4, .int p4), (5, .int p5)] [] V
  rw [f_Ly_relocation] at h
  refine Y_aload_n (pc := 0) hC d_Ly_relocation_0 rfl 0 rfl ?_
  refine Y_getR (pc := 1) hC sc_0 fl_Ly_19 rfl d_Ly_relocation_1 ?_
  refine Y_iload_n (pc := 4) hC d_Ly_relocation_4 rfl 1 rfl ?_
  refine Y_iload_n (pc := 5) hC d_Ly_relocation_5 rfl 2 rfl ?_
  obtain ⟨r1, V1, hc_r1, h⟩ := cl_some h
  refine Y_callV (pc := 6) hC (c_Se_hasWord C.l C.D C.cI C.cZ C.a hc_r1) (fun q => nomatch q) sc_2 cls_Se ml_Ly_155 mv_Se_hasWord (by decide) (Nat.le_of_ble_eq_true rfl) rfl d_Ly_relocation_6 ?_
  refine Y_if_eq (pc := 9) hC 21 d_Ly_relocation_9 rfl (fun cc_9 => ?_) (fun cc_9 => ?_)
  · have h := ifp cc_9 h
    cases h
    exact Y_throwW (pc := 21) (E := "java/lang/IllegalArgumentException") (tx := "no such section, place or sort") (len := 2) (names := ["java/lang/RuntimeException", "java/lang/Exception"]) hC hT tok_Ly_112_108 (by decide) rfl (by decide) d_Ly_relocation_21 d_Ly_relocation_24 (Or.inl ⟨d_Ly_relocation_25, rfl⟩) d_Ly_relocation_27 d_Ly_relocation_30
  · have h := ifn cc_9 h
    refine Y_iload_n (pc := 12) hC d_Ly_relocation_12 rfl 3 rfl ?_
    refine Y_if_lt (pc := 13) hC 21 d_Ly_relocation_13 rfl (fun cc_13 => ?_) (fun cc_13 => ?_)
    · have h := ifp cc_13 h
      cases h
      exact Y_throwW (pc := 21) (E := "java/lang/IllegalArgumentException") (tx := "no such section, place or sort") (len := 2) (names := ["java/lang/RuntimeException", "java/lang/Exception"]) hC hT tok_Ly_112_108 (by decide) rfl (by decide) d_Ly_relocation_21 d_Ly_relocation_24 (Or.inl ⟨d_Ly_relocation_25, rfl⟩) d_Ly_relocation_27 d_Ly_relocation_30
    · have h := ifn cc_13 h
      refine Y_iload_n (pc := 16) hC d_Ly_relocation_16 rfl 3 rfl ?_
      refine Y_iconst (pc := 17) hC d_Ly_relocation_17 ki_5 ?_
      refine Y_icmp_le (pc := 18) hC 31 d_Ly_relocation_18 rfl (fun cc_18 => ?_) (fun cc_18 => ?_)
      · have h := ifp cc_18 h
        refine Y_aload_n (pc := 31) hC d_Ly_relocation_31 rfl 0 rfl ?_
        refine Y_getR (pc := 32) hC sc_0 fl_Ly_26 rfl d_Ly_relocation_32 ?_
        refine Y_iload (pc := 35) hC d_Ly_relocation_35 4 rfl ?_
        obtain ⟨r2, V2, hc_r2, h⟩ := cl_some h
        refine Y_callV (pc := 37) hC (c_Sy_has C.l C.D C.cI C.cZ C.a hc_r2) (fun q => nomatch q) sc_3 cls_Sy ml_Ly_205 mv_Sy_has (by decide) (Nat.le_of_ble_eq_true rfl) rfl d_Ly_relocation_37 ?_
        refine Y_if_eq (pc := 40) hC 65 d_Ly_relocation_40 rfl (fun cc_40 => ?_) (fun cc_40 => ?_)
        · have h := ifp cc_40 h
          cases h
          exact Y_throwW (pc := 65) (E := "java/lang/IllegalArgumentException") (tx := "no such symbol of the unit") (len := 2) (names := ["java/lang/RuntimeException", "java/lang/Exception"]) hC hT tok_Ly_112_108 (by decide) rfl (by decide) d_Ly_relocation_65 d_Ly_relocation_68 (Or.inl ⟨d_Ly_relocation_69, rfl⟩) d_Ly_relocation_71 d_Ly_relocation_74
        · have h := ifn cc_40 h
          refine Y_aload_n (pc := 43) hC d_Ly_relocation_43 rfl 0 rfl ?_
          refine Y_getR (pc := 44) hC sc_0 fl_Ly_26 rfl d_Ly_relocation_44 ?_
          refine Y_getR (pc := 47) hC sc_3 fl_Ly_206 rfl d_Ly_relocation_47 ?_
          refine Y_iload (pc := 50) hC d_Ly_relocation_50 4 rfl ?_
          obtain ⟨hi, h⟩ := ck_some h
          refine Y_iald (pc := 52) hC sc_21 rfl hi d_Ly_relocation_52 ?_
          refine Y_aload_n (pc := 53) hC d_Ly_relocation_53 rfl 0 rfl ?_
          refine Y_getR (pc := 54) hC sc_0 fl_Ly_19 rfl d_Ly_relocation_54 ?_
          refine Y_getR (pc := 57) hC sc_2 fl_Ly_176 rfl d_Ly_relocation_57 ?_
          refine Y_iload_n (pc := 60) hC d_Ly_relocation_60 rfl 1 rfl ?_
          obtain ⟨hi, h⟩ := ck_some h
          refine Y_iald (pc := 61) hC sc_15 rfl hi d_Ly_relocation_61 ?_
          refine Y_icmp_eq (pc := 62) hC 75 d_Ly_relocation_62 rfl (fun cc_62 => ?_) (fun cc_62 => ?_)
          · have h := ifp cc_62 h
            refine Y_aload_n (pc := 75) hC d_Ly_relocation_75 rfl 0 rfl ?_
            refine Y_getR (pc := 76) hC sc_0 fl_Ly_33 rfl d_Ly_relocation_76 ?_
            refine Y_getI (pc := 79) hC sc_4 fl_Ly_209 rfl d_Ly_relocation_79 ?_
            refine Y_sipush (pc := 82) hC d_Ly_relocation_82 ks_600 ?_
            refine Y_icmp_lt (pc := 85) hC 98 d_Ly_relocation_85 rfl (fun cc_85 => ?_) (fun cc_85 => ?_)
            · have h := ifp cc_85 h
              obtain ⟨_, _, -, h⟩ := cl_some h
              obtain ⟨_, _, -, h⟩ := cl_some h
              cases h
            · have h := ifn cc_85 h
              cases h
              exact Y_throwW (pc := 88) (E := "java/lang/UnsupportedOperationException") (tx := "too many relocations") (len := 2) (names := ["java/lang/RuntimeException", "java/lang/Exception"]) hC hT tok_Ly_122_118 (by decide) rfl (by decide) d_Ly_relocation_88 d_Ly_relocation_91 (Or.inl ⟨d_Ly_relocation_92, rfl⟩) d_Ly_relocation_94 d_Ly_relocation_97
          · have h := ifn cc_62 h
            cases h
            exact Y_throwW (pc := 65) (E := "java/lang/IllegalArgumentException") (tx := "no such symbol of the unit") (len := 2) (names := ["java/lang/RuntimeException", "java/lang/Exception"]) hC hT tok_Ly_112_108 (by decide) rfl (by decide) d_Ly_relocation_65 d_Ly_relocation_68 (Or.inl ⟨d_Ly_relocation_69, rfl⟩) d_Ly_relocation_71 d_Ly_relocation_74
      · have h := ifn cc_18 h
        cases h
        exact Y_throwW (pc := 21) (E := "java/lang/IllegalArgumentException") (tx := "no such section, place or sort") (len := 2) (names := ["java/lang/RuntimeException", "java/lang/Exception"]) hC hT tok_Ly_112_108 (by decide) rfl (by decide) d_Ly_relocation_21 d_Ly_relocation_24 (Or.inl ⟨d_Ly_relocation_25, rfl⟩) d_Ly_relocation_27 d_Ly_relocation_30
set_option maxHeartbeats 4000000 in
set_option maxRecDepth 100000 in
theorem c_Ly_entry (l : Launch) (D : va_G) (cI cZ : ClassId) (a : Nat → Nat) {V : Sto} {p1 : Int32} {r : Int32} {V' : Sto} (h : f_Ly_entry V p1 = some (.inl r, V')) : YMv l D cI cZ a shpC y_Ly_entry b_Ly_entry 2 rm_Ly_entry true [.ref (a 0), .int p1] V V' := by
  refine YMv_of (by decide) (Nat.le_of_ble_eq_true rfl) ?_
  intro C hl hDD hcI hcZ ha hC hw hE
  subst hl hDD hcI hcZ ha
  show Y C shpC 2 0 [(0, .ref (C.a 0)), (1, .int p1)] [] V
  have hw := hw rfl
  rw [f_Ly_entry] at h
  refine Y_iload_n (pc := 0) hC d_Ly_entry_0 rfl 1 rfl ?_
  refine Y_iconst (pc := 1) hC d_Ly_entry_1 ki_m1 ?_
  refine Y_icmp_eq (pc := 2) hC 22 d_Ly_entry_2 rfl (fun cc_2 => ?_) (fun cc_2 => ?_)
  · have h := ifp cc_2 h
    refine Y_aload_n (pc := 22) hC d_Ly_entry_22 rfl 0 rfl ?_
    obtain ⟨r1, V1, hc_r1, h⟩ := cl_some h
    refine Y_callVv (pc := 23) hC (c_Ly_takeLinkAway C.l C.D C.cI C.cZ C.a hc_r1) (fun _ => hw) sc_0 cls_Ly ml_Ly_123 mv_Ly_takeLinkAway (by decide) (Nat.le_of_ble_eq_true rfl) rfl d_Ly_entry_23 ?_
    refine Y_aload_n (pc := 26) hC d_Ly_entry_26 rfl 0 rfl ?_
    refine Y_iload_n (pc := 27) hC d_Ly_entry_27 rfl 1 rfl ?_
    obtain ⟨V2, hV2, h⟩ := nm_some h
    refine Y_put (pc := 28) hC sc_0 fl_Ly_98 rfl (by decide) fp_Ly ft_Ly_11 rfl rfl hw hV2 d_Ly_entry_28 ?_
    have h := inl_some h
    exact Y_vret (pc := 31) hC hE d_Ly_entry_31 h
  · have h := ifn cc_2 h
    refine Y_iload_n (pc := 5) hC d_Ly_entry_5 rfl 1 rfl ?_
    obtain ⟨r2, V3, hc_r2, h⟩ := cl_some h
    refine Y_callS (pc := 6) hC (c_Ly_isName C.l C.D C.cI C.cZ C.a hc_r2) (fun q => nomatch q) ml_Ly_171 ms_Ly_isName (by decide) (Nat.le_of_ble_eq_true rfl) rfl d_Ly_entry_6 ?_
    refine Y_if_ne (pc := 9) hC 22 d_Ly_entry_9 rfl (fun cc_9 => ?_) (fun cc_9 => ?_)
    · have h := ifn cc_9 h
      refine Y_aload_n (pc := 22) hC d_Ly_entry_22 rfl 0 rfl ?_
      obtain ⟨r3, V4, hc_r3, h⟩ := cl_some h
      refine Y_callVv (pc := 23) hC (c_Ly_takeLinkAway C.l C.D C.cI C.cZ C.a hc_r3) (fun _ => hw) sc_0 cls_Ly ml_Ly_123 mv_Ly_takeLinkAway (by decide) (Nat.le_of_ble_eq_true rfl) rfl d_Ly_entry_23 ?_
      refine Y_aload_n (pc := 26) hC d_Ly_entry_26 rfl 0 rfl ?_
      refine Y_iload_n (pc := 27) hC d_Ly_entry_27 rfl 1 rfl ?_
      obtain ⟨V5, hV5, h⟩ := nm_some h
      refine Y_put (pc := 28) hC sc_0 fl_Ly_98 rfl (by decide) fp_Ly ft_Ly_11 rfl rfl hw hV5 d_Ly_entry_28 ?_
      have h := inl_some h
      exact Y_vret (pc := 31) hC hE d_Ly_entry_31 h
    · have h := ifp cc_9 h
      cases h
set_option maxHeartbeats 4000000 in
set_option maxRecDepth 100000 in
theorem t_Ly_entry (l : Launch) (D : va_G) (cI cZ : ClassId) (a : Nat → Nat) (hN : NoTr l) {V : Sto} {p1 : Int32} {e : Nat} {V' : Sto} (h : f_Ly_entry V p1 = some (.inr e, V')) : YMt l D cI cZ a shpC y_Ly_entry b_Ly_entry 2 (none) rmt_Ly_entry [.ref (a 0), .int p1] V (exn e) := by
  refine YMt_of hN (by decide) (Nat.le_of_ble_eq_true rfl) ?_
  intro C hl hDD hcI hcZ ha hC hT
  subst hl hDD hcI hcZ ha
  show Y C shpC 2 0 [(0, .ref (C.a 0)), (1, .int p1)] [] V
  rw [f_Ly_entry] at h
  refine Y_iload_n (pc := 0) hC d_Ly_entry_0 rfl 1 rfl ?_
  refine Y_iconst (pc := 1) hC d_Ly_entry_1 ki_m1 ?_
  refine Y_icmp_eq (pc := 2) hC 22 d_Ly_entry_2 rfl (fun cc_2 => ?_) (fun cc_2 => ?_)
  · have h := ifp cc_2 h
    obtain ⟨_, _, -, h⟩ := cl_some h
    obtain ⟨_, -, h⟩ := nm_some h
    cases h
  · have h := ifn cc_2 h
    refine Y_iload_n (pc := 5) hC d_Ly_entry_5 rfl 1 rfl ?_
    obtain ⟨r2, V3, hc_r2, h⟩ := cl_some h
    refine Y_callS (pc := 6) hC (c_Ly_isName C.l C.D C.cI C.cZ C.a hc_r2) (fun q => nomatch q) ml_Ly_171 ms_Ly_isName (by decide) (Nat.le_of_ble_eq_true rfl) rfl d_Ly_entry_6 ?_
    refine Y_if_ne (pc := 9) hC 22 d_Ly_entry_9 rfl (fun cc_9 => ?_) (fun cc_9 => ?_)
    · have h := ifn cc_9 h
      obtain ⟨_, _, -, h⟩ := cl_some h
      obtain ⟨_, -, h⟩ := nm_some h
      cases h
    · have h := ifp cc_9 h
      cases h
      exact Y_throwW (pc := 12) (E := "java/lang/IllegalArgumentException") (tx := "no such name") (len := 2) (names := ["java/lang/RuntimeException", "java/lang/Exception"]) hC hT tok_Ly_112_108 (by decide) rfl (by decide) d_Ly_entry_12 d_Ly_entry_15 (Or.inl ⟨d_Ly_entry_16, rfl⟩) d_Ly_entry_18 d_Ly_entry_21
set_option maxHeartbeats 4000000 in
set_option maxRecDepth 100000 in
theorem c_Ly_keep (l : Launch) (D : va_G) (cI cZ : ClassId) (a : Nat → Nat) {V : Sto} {p1 : Int32} {p2 : Int32} {r : Int32} {V' : Sto} (h : f_Ly_keep V p1 p2 = some (.inl r, V')) : YMv l D cI cZ a shpC y_Ly_keep b_Ly_keep 3 rm_Ly_keep true [.ref (a 0), .int p1, .int p2] V V' := by
  refine YMv_of (by decide) (Nat.le_of_ble_eq_true rfl) ?_
  intro C hl hDD hcI hcZ ha hC hw hE
  subst hl hDD hcI hcZ ha
  show Y C shpC 3 0 [(0, .ref (C.a 0)), (1, .int p1), (2, .int p2)] [] V
  have hw := hw rfl
  rw [f_Ly_keep] at h
  refine Y_aload_n (pc := 0) hC d_Ly_keep_0 rfl 0 rfl ?_
  refine Y_getR (pc := 1) hC sc_0 fl_Ly_19 rfl d_Ly_keep_1 ?_
  refine Y_iload_n (pc := 4) hC d_Ly_keep_4 rfl 1 rfl ?_
  obtain ⟨r1, V1, hc_r1, h⟩ := cl_some h
  refine Y_callV (pc := 5) hC (c_Se_has C.l C.D C.cI C.cZ C.a hc_r1) (fun q => nomatch q) sc_2 cls_Se ml_Ly_164 mv_Se_has (by decide) (Nat.le_of_ble_eq_true rfl) rfl d_Ly_keep_5 ?_
  refine Y_if_ne (pc := 8) hC 21 d_Ly_keep_8 rfl (fun cc_8 => ?_) (fun cc_8 => ?_)
  · have h := ifn cc_8 h
    refine Y_aload_n (pc := 21) hC d_Ly_keep_21 rfl 0 rfl ?_
    obtain ⟨r2, V2, hc_r2, h⟩ := cl_some h
    refine Y_callVv (pc := 22) hC (c_Ly_takeLinkAway C.l C.D C.cI C.cZ C.a hc_r2) (fun _ => hw) sc_0 cls_Ly ml_Ly_123 mv_Ly_takeLinkAway (by decide) (Nat.le_of_ble_eq_true rfl) rfl d_Ly_keep_22 ?_
    refine Y_aload_n (pc := 25) hC d_Ly_keep_25 rfl 0 rfl ?_
    refine Y_getR (pc := 26) hC sc_0 fl_Ly_19 rfl d_Ly_keep_26 ?_
    refine Y_getR (pc := 29) hC sc_2 fl_Ly_219 rfl d_Ly_keep_29 ?_
    refine Y_iload_n (pc := 32) hC d_Ly_keep_32 rfl 1 rfl ?_
    refine Y_iload_n (pc := 33) hC d_Ly_keep_33 rfl 2 rfl ?_
    obtain ⟨hi, h⟩ := ck_some h
    obtain ⟨V3, hV3, h⟩ := nm_some h
    refine Y_zast (pc := 34) hC sc_20 (by decide) rfl hi hw rfl hV3 d_Ly_keep_34 ?_
    have h := inl_some h
    exact Y_vret (pc := 35) hC hE d_Ly_keep_35 h
  · have h := ifp cc_8 h
    cases h
set_option maxHeartbeats 4000000 in
set_option maxRecDepth 100000 in
theorem t_Ly_keep (l : Launch) (D : va_G) (cI cZ : ClassId) (a : Nat → Nat) (hN : NoTr l) {V : Sto} {p1 : Int32} {p2 : Int32} {e : Nat} {V' : Sto} (h : f_Ly_keep V p1 p2 = some (.inr e, V')) : YMt l D cI cZ a shpC y_Ly_keep b_Ly_keep 3 (none) rmt_Ly_keep [.ref (a 0), .int p1, .int p2] V (exn e) := by
  refine YMt_of hN (by decide) (Nat.le_of_ble_eq_true rfl) ?_
  intro C hl hDD hcI hcZ ha hC hT
  subst hl hDD hcI hcZ ha
  show Y C shpC 3 0 [(0, .ref (C.a 0)), (1, .int p1), (2, .int p2)] [] V
  rw [f_Ly_keep] at h
  refine Y_aload_n (pc := 0) hC d_Ly_keep_0 rfl 0 rfl ?_
  refine Y_getR (pc := 1) hC sc_0 fl_Ly_19 rfl d_Ly_keep_1 ?_
  refine Y_iload_n (pc := 4) hC d_Ly_keep_4 rfl 1 rfl ?_
  obtain ⟨r1, V1, hc_r1, h⟩ := cl_some h
  refine Y_callV (pc := 5) hC (c_Se_has C.l C.D C.cI C.cZ C.a hc_r1) (fun q => nomatch q) sc_2 cls_Se ml_Ly_164 mv_Se_has (by decide) (Nat.le_of_ble_eq_true rfl) rfl d_Ly_keep_5 ?_
  refine Y_if_ne (pc := 8) hC 21 d_Ly_keep_8 rfl (fun cc_8 => ?_) (fun cc_8 => ?_)
  · have h := ifn cc_8 h
    obtain ⟨_, _, -, h⟩ := cl_some h
    obtain ⟨-, h⟩ := ck_some h
    obtain ⟨_, -, h⟩ := nm_some h
    cases h
  · have h := ifp cc_8 h
    cases h
    exact Y_throwW (pc := 11) (E := "java/lang/IllegalArgumentException") (tx := "no such section") (len := 2) (names := ["java/lang/RuntimeException", "java/lang/Exception"]) hC hT tok_Ly_112_108 (by decide) rfl (by decide) d_Ly_keep_11 d_Ly_keep_14 (Or.inl ⟨d_Ly_keep_15, rfl⟩) d_Ly_keep_17 d_Ly_keep_20
set_option maxHeartbeats 4000000 in
set_option maxRecDepth 100000 in
theorem c_Ly_link (l : Launch) (D : va_G) (cI cZ : ClassId) (a : Nat → Nat) {V : Sto} {p1 : Int32} {r : Int32} {V' : Sto} (h : f_Ly_link V p1 = some (.inl r, V')) : YMi l D cI cZ a shpC y_Ly_link b_Ly_link 2 (some .int) rm_Ly_link true [.ref (a 0), .int p1] V r V' := by
  refine YMi_of (by decide) (Nat.le_of_ble_eq_true rfl) ?_
  intro C hl hDD hcI hcZ ha hC hw hE
  subst hl hDD hcI hcZ ha
  show Y C shpC 2 0 [(0, .ref (C.a 0)), (1, .int p1)] [] V
  have hw := hw rfl
  rw [f_Ly_link] at h
  refine Y_iload_n (pc := 0) hC d_Ly_link_0 rfl 1 rfl ?_
  refine Y_if_lt (pc := 1) hC 18 d_Ly_link_1 rfl (fun cc_1 => ?_) (fun cc_1 => ?_)
  · have h := ifp cc_1 h
    cases h
  · have h := ifn cc_1 h
    refine Y_iload_n (pc := 4) hC d_Ly_link_4 rfl 1 rfl ?_
    refine Y_ldc (pc := 5) hC kc_Ly_233 d_Ly_link_5 ?_
    refine Y_icmp_gt (pc := 7) hC 18 d_Ly_link_7 rfl (fun cc_7 => ?_) (fun cc_7 => ?_)
    · have h := ifp cc_7 h
      cases h
    · have h := ifn cc_7 h
      refine Y_iload_n (pc := 10) hC d_Ly_link_10 rfl 1 rfl ?_
      refine Y_sipush (pc := 11) hC d_Ly_link_11 ks_4096 ?_
      refine Y_irem (pc := 14) hC d_Ly_link_14 (by decide) ?_
      refine Y_if_eq (pc := 15) hC 28 d_Ly_link_15 rfl (fun cc_15 => ?_) (fun cc_15 => ?_)
      · have h := ifp cc_15 h
        refine Y_aload_n (pc := 28) hC d_Ly_link_28 rfl 0 rfl ?_
        obtain ⟨r1, V1, hc_r1, h⟩ := cl_some h
        refine Y_callVv (pc := 29) hC (c_Ly_takeLinkAway C.l C.D C.cI C.cZ C.a hc_r1) (fun _ => hw) sc_0 cls_Ly ml_Ly_123 mv_Ly_takeLinkAway (by decide) (Nat.le_of_ble_eq_true rfl) rfl d_Ly_link_29 ?_
        refine Y_aload_n (pc := 32) hC d_Ly_link_32 rfl 0 rfl ?_
        refine Y_aload_n (pc := 33) hC d_Ly_link_33 rfl 0 rfl ?_
        obtain ⟨r2, V2, hc_r2, h⟩ := cl_some h
        refine Y_callV (pc := 34) hC (c_Ly_linksNames C.l C.D C.cI C.cZ C.a hc_r2) (fun _ => hw) sc_0 cls_Ly ml_Ly_236 mv_Ly_linksNames (by decide) (Nat.le_of_ble_eq_true rfl) rfl d_Ly_link_34 ?_
        obtain ⟨j1, hj1, h⟩ := jn_some h
        have kj1 : ∀ (z1 : Int32) (V4 : Sto), j1 z1 V4 = some (.inl r, V') → Y C shpC 2 53 [(0, .ref (C.a 0)), (1, .int p1)] [.int z1, .ref (C.a 0)] V4 := by
          intro z1 V4 h
          subst hj1
          dsimp only at h
          obtain ⟨hbb, h⟩ := ck_some h
          obtain ⟨V5, hV5, h⟩ := nm_some h
          refine Y_put (pc := 53) hC sc_0 fl_Ly_243 rfl (by decide) fp_Ly ft_Ly_14 (bb_nar hbb) (bb_fit hbb) hw hV5 d_Ly_link_53 ?_
          refine Y_aload_n (pc := 56) hC d_Ly_link_56 rfl 0 rfl ?_
          refine Y_getI (pc := 57) hC sc_0 fl_Ly_243 rfl d_Ly_link_57 ?_
          refine Y_if_eq (pc := 60) hC 75 d_Ly_link_60 rfl (fun cc_60 => ?_) (fun cc_60 => ?_)
          · have h := ifp cc_60 h
            refine Y_iconst (pc := 75) hC d_Ly_link_75 ki_m1 ?_
            have h := inl_some h
            exact Y_iret (pc := 76) hC hE d_Ly_link_76 h
          · have h := ifn cc_60 h
            refine Y_aload_n (pc := 63) hC d_Ly_link_63 rfl 0 rfl ?_
            refine Y_getR (pc := 64) hC sc_0 fl_Ly_76 rfl d_Ly_link_64 ?_
            refine Y_getI (pc := 67) hC sc_9 fl_Ly_246 rfl d_Ly_link_67 ?_
            refine Y_iload_n (pc := 70) hC d_Ly_link_70 rfl 1 rfl ?_
            refine Y_isub (pc := 71) hC d_Ly_link_71 ?_
            refine Y_goto (pc := 72) hC 76 d_Ly_link_72 rfl ?_
            have h := inl_some h
            exact Y_iret (pc := 76) hC hE d_Ly_link_76 h
        refine Y_if_eq (pc := 37) hC 52 d_Ly_link_37 rfl (fun cc_37 => ?_) (fun cc_37 => ?_)
        · have h := ifp cc_37 h
          refine Y_iconst (pc := 52) hC d_Ly_link_52 ki_0 ?_
          refine Y_sub (pc := 53) [0, 1] rfl ?_
          exact kj1 _ _ h
        · have h := ifn cc_37 h
          refine Y_aload_n (pc := 40) hC d_Ly_link_40 rfl 0 rfl ?_
          refine Y_iload_n (pc := 41) hC d_Ly_link_41 rfl 1 rfl ?_
          obtain ⟨r3, V3, hc_r3, h⟩ := cl_some h
          refine Y_callV (pc := 42) hC (c_Ly_linksPlaces C.l C.D C.cI C.cZ C.a hc_r3) (fun _ => hw) sc_0 cls_Ly ml_Ly_240 mv_Ly_linksPlaces (by decide) (Nat.le_of_ble_eq_true rfl) rfl d_Ly_link_42 ?_
          refine Y_if_eq (pc := 45) hC 52 d_Ly_link_45 rfl (fun cc_45 => ?_) (fun cc_45 => ?_)
          · have h := ifp cc_45 h
            refine Y_iconst (pc := 52) hC d_Ly_link_52 ki_0 ?_
            refine Y_sub (pc := 53) [0, 1] rfl ?_
            exact kj1 _ _ h
          · have h := ifn cc_45 h
            refine Y_iconst (pc := 48) hC d_Ly_link_48 ki_1 ?_
            refine Y_goto (pc := 49) hC 53 d_Ly_link_49 rfl ?_
            refine Y_sub (pc := 53) [0, 1] rfl ?_
            exact kj1 _ _ h
      · have h := ifn cc_15 h
        cases h
set_option maxHeartbeats 4000000 in
set_option maxRecDepth 100000 in
theorem t_Ly_link (l : Launch) (D : va_G) (cI cZ : ClassId) (a : Nat → Nat) (hN : NoTr l) {V : Sto} {p1 : Int32} {e : Nat} {V' : Sto} (h : f_Ly_link V p1 = some (.inr e, V')) : YMt l D cI cZ a shpC y_Ly_link b_Ly_link 2 (some .int) rmt_Ly_link [.ref (a 0), .int p1] V (exn e) := by
  refine YMt_of hN (by decide) (Nat.le_of_ble_eq_true rfl) ?_
  intro C hl hDD hcI hcZ ha hC hT
  subst hl hDD hcI hcZ ha
  show Y C shpC 2 0 [(0, .ref (C.a 0)), (1, .int p1)] [] V
  rw [f_Ly_link] at h
  refine Y_iload_n (pc := 0) hC d_Ly_link_0 rfl 1 rfl ?_
  refine Y_if_lt (pc := 1) hC 18 d_Ly_link_1 rfl (fun cc_1 => ?_) (fun cc_1 => ?_)
  · have h := ifp cc_1 h
    cases h
    exact Y_throwW (pc := 18) (E := "java/lang/IllegalArgumentException") (tx := "no such base") (len := 2) (names := ["java/lang/RuntimeException", "java/lang/Exception"]) hC hT tok_Ly_112_108 (by decide) rfl (by decide) d_Ly_link_18 d_Ly_link_21 (Or.inl ⟨d_Ly_link_22, rfl⟩) d_Ly_link_24 d_Ly_link_27
  · have h := ifn cc_1 h
    refine Y_iload_n (pc := 4) hC d_Ly_link_4 rfl 1 rfl ?_
    refine Y_ldc (pc := 5) hC kc_Ly_233 d_Ly_link_5 ?_
    refine Y_icmp_gt (pc := 7) hC 18 d_Ly_link_7 rfl (fun cc_7 => ?_) (fun cc_7 => ?_)
    · have h := ifp cc_7 h
      cases h
      exact Y_throwW (pc := 18) (E := "java/lang/IllegalArgumentException") (tx := "no such base") (len := 2) (names := ["java/lang/RuntimeException", "java/lang/Exception"]) hC hT tok_Ly_112_108 (by decide) rfl (by decide) d_Ly_link_18 d_Ly_link_21 (Or.inl ⟨d_Ly_link_22, rfl⟩) d_Ly_link_24 d_Ly_link_27
    · have h := ifn cc_7 h
      refine Y_iload_n (pc := 10) hC d_Ly_link_10 rfl 1 rfl ?_
      refine Y_sipush (pc := 11) hC d_Ly_link_11 ks_4096 ?_
      refine Y_irem (pc := 14) hC d_Ly_link_14 (by decide) ?_
      refine Y_if_eq (pc := 15) hC 28 d_Ly_link_15 rfl (fun cc_15 => ?_) (fun cc_15 => ?_)
      · have h := ifp cc_15 h
        obtain ⟨_, _, -, h⟩ := cl_some h
        obtain ⟨_, _, -, h⟩ := cl_some h
        obtain ⟨j1, hj1, h⟩ := jn_some h
        subst hj1
        rcases ite_or h with h | h
        · have h := h
          dsimp only at h
          obtain ⟨-, h⟩ := ck_some h
          obtain ⟨_, -, h⟩ := nm_some h
          rcases ite_or h with h | h
          · have h := h
            cases h
          · have h := h
            cases h
        · have h := h
          obtain ⟨_, _, -, h⟩ := cl_some h
          rcases ite_or h with h | h
          · have h := h
            dsimp only at h
            obtain ⟨-, h⟩ := ck_some h
            obtain ⟨_, -, h⟩ := nm_some h
            rcases ite_or h with h | h
            · have h := h
              cases h
            · have h := h
              cases h
          · have h := h
            dsimp only at h
            obtain ⟨-, h⟩ := ck_some h
            obtain ⟨_, -, h⟩ := nm_some h
            rcases ite_or h with h | h
            · have h := h
              cases h
            · have h := h
              cases h
      · have h := ifn cc_15 h
        cases h
        exact Y_throwW (pc := 18) (E := "java/lang/IllegalArgumentException") (tx := "no such base") (len := 2) (names := ["java/lang/RuntimeException", "java/lang/Exception"]) hC hT tok_Ly_112_108 (by decide) rfl (by decide) d_Ly_link_18 d_Ly_link_21 (Or.inl ⟨d_Ly_link_22, rfl⟩) d_Ly_link_24 d_Ly_link_27
set_option maxHeartbeats 4000000 in
set_option maxRecDepth 100000 in
theorem c_Ly_fault (l : Launch) (D : va_G) (cI cZ : ClassId) (a : Nat → Nat) {V : Sto} {p1 : Int32} {r : Int32} {V' : Sto} (h : f_Ly_fault V p1 = some (.inl r, V')) : YMi l D cI cZ a shpC y_Ly_fault b_Ly_fault 2 (some .int) rm_Ly_fault false [.ref (a 0), .int p1] V r V' := by
  refine YMi_of (by decide) (Nat.le_of_ble_eq_true rfl) ?_
  intro C hl hDD hcI hcZ ha hC hw hE
  subst hl hDD hcI hcZ ha
  show Y C shpC 2 0 [(0, .ref (C.a 0)), (1, .int p1)] [] V
  rw [f_Ly_fault] at h
  refine Y_iload_n (pc := 0) hC d_Ly_fault_0 rfl 1 rfl ?_
  by_cases cs_1_0 : p1 = 0
  · have h := ifp cs_1_0 h
    refine Y_tableIn (pc := 1) hC (off := 27) 28 d_Ly_fault_1 (by rw [cs_1_0]; decide) (by rw [cs_1_0]; decide) (by rw [cs_1_0]; try rfl) rfl ?_
    refine Y_aload_n (pc := 28) hC d_Ly_fault_28 rfl 0 rfl ?_
    refine Y_getI (pc := 29) hC sc_0 fl_Ly_249 rfl d_Ly_fault_29 ?_
    have h := inl_some h
    exact Y_iret (pc := 32) hC hE d_Ly_fault_32 h
  · have h := ifn cs_1_0 h
    by_cases cs_1_1 : p1 = 1
    · have h := ifp cs_1_1 h
      refine Y_tableIn (pc := 1) hC (off := 32) 33 d_Ly_fault_1 (by rw [cs_1_1]; decide) (by rw [cs_1_1]; decide) (by rw [cs_1_1]; try rfl) rfl ?_
      refine Y_aload_n (pc := 33) hC d_Ly_fault_33 rfl 0 rfl ?_
      refine Y_getI (pc := 34) hC sc_0 fl_Ly_102 rfl d_Ly_fault_34 ?_
      have h := inl_some h
      exact Y_iret (pc := 37) hC hE d_Ly_fault_37 h
    · have h := ifn cs_1_1 h
      by_cases cs_1_2 : p1 = 2
      · have h := ifp cs_1_2 h
        refine Y_tableIn (pc := 1) hC (off := 37) 38 d_Ly_fault_1 (by rw [cs_1_2]; decide) (by rw [cs_1_2]; decide) (by rw [cs_1_2]; try rfl) rfl ?_
        refine Y_aload_n (pc := 38) hC d_Ly_fault_38 rfl 0 rfl ?_
        refine Y_getI (pc := 39) hC sc_0 fl_Ly_105 rfl d_Ly_fault_39 ?_
        have h := inl_some h
        exact Y_iret (pc := 42) hC hE d_Ly_fault_42 h
      · have h := ifn cs_1_2 h
        have cn_0 := i32_ne cs_1_0
        have cn_1 := i32_ne cs_1_1
        have cn_2 := i32_ne cs_1_2
        simp only [i32lit_0, i32lit_1, i32lit_2] at cn_0 cn_1 cn_2
        refine Y_tableOut (pc := 1) hC 43 d_Ly_fault_1 (by omega) rfl ?_
        cases h
set_option maxHeartbeats 4000000 in
set_option maxRecDepth 100000 in
theorem t_Ly_fault (l : Launch) (D : va_G) (cI cZ : ClassId) (a : Nat → Nat) (hN : NoTr l) {V : Sto} {p1 : Int32} {e : Nat} {V' : Sto} (h : f_Ly_fault V p1 = some (.inr e, V')) : YMt l D cI cZ a shpC y_Ly_fault b_Ly_fault 2 (some .int) rmt_Ly_fault [.ref (a 0), .int p1] V (exn e) := by
  refine YMt_of hN (by decide) (Nat.le_of_ble_eq_true rfl) ?_
  intro C hl hDD hcI hcZ ha hC hT
  subst hl hDD hcI hcZ ha
  show Y C shpC 2 0 [(0, .ref (C.a 0)), (1, .int p1)] [] V
  rw [f_Ly_fault] at h
  refine Y_iload_n (pc := 0) hC d_Ly_fault_0 rfl 1 rfl ?_
  by_cases cs_1_0 : p1 = 0
  · have h := ifp cs_1_0 h
    refine Y_tableIn (pc := 1) hC (off := 27) 28 d_Ly_fault_1 (by rw [cs_1_0]; decide) (by rw [cs_1_0]; decide) (by rw [cs_1_0]; try rfl) rfl ?_
    cases h
  · have h := ifn cs_1_0 h
    by_cases cs_1_1 : p1 = 1
    · have h := ifp cs_1_1 h
      refine Y_tableIn (pc := 1) hC (off := 32) 33 d_Ly_fault_1 (by rw [cs_1_1]; decide) (by rw [cs_1_1]; decide) (by rw [cs_1_1]; try rfl) rfl ?_
      cases h
    · have h := ifn cs_1_1 h
      by_cases cs_1_2 : p1 = 2
      · have h := ifp cs_1_2 h
        refine Y_tableIn (pc := 1) hC (off := 37) 38 d_Ly_fault_1 (by rw [cs_1_2]; decide) (by rw [cs_1_2]; decide) (by rw [cs_1_2]; try rfl) rfl ?_
        cases h
      · have h := ifn cs_1_2 h
        have cn_0 := i32_ne cs_1_0
        have cn_1 := i32_ne cs_1_1
        have cn_2 := i32_ne cs_1_2
        simp only [i32lit_0, i32lit_1, i32lit_2] at cn_0 cn_1 cn_2
        refine Y_tableOut (pc := 1) hC 43 d_Ly_fault_1 (by omega) rfl ?_
        cases h
        exact Y_throwW (pc := 43) (E := "java/lang/IllegalArgumentException") (tx := "no such what") (len := 2) (names := ["java/lang/RuntimeException", "java/lang/Exception"]) hC hT tok_Ly_112_108 (by decide) rfl (by decide) d_Ly_fault_43 d_Ly_fault_46 (Or.inl ⟨d_Ly_fault_47, rfl⟩) d_Ly_fault_49 d_Ly_fault_52
set_option maxHeartbeats 4000000 in
set_option maxRecDepth 100000 in
theorem c_Ly_askLinked (l : Launch) (D : va_G) (cI cZ : ClassId) (a : Nat → Nat) {V : Sto} {r : Int32} {V' : Sto} (h : f_Ly_askLinked V = some (.inl r, V')) : YMv l D cI cZ a shpC y_Ly_askLinked b_Ly_askLinked 1 rm_Ly_askLinked false [.ref (a 0)] V V' := by
  refine YMv_of (by decide) (Nat.le_of_ble_eq_true rfl) ?_
  intro C hl hDD hcI hcZ ha hC hw hE
  subst hl hDD hcI hcZ ha
  show Y C shpC 1 0 [(0, .ref (C.a 0))] [] V
  rw [f_Ly_askLinked] at h
  refine Y_aload_n (pc := 0) hC d_Ly_askLinked_0 rfl 0 rfl ?_
  refine Y_getI (pc := 1) hC sc_0 fl_Ly_243 rfl d_Ly_askLinked_1 ?_
  refine Y_if_ne (pc := 4) hC 18 d_Ly_askLinked_4 rfl (fun cc_4 => ?_) (fun cc_4 => ?_)
  · have h := ifn cc_4 h
    have h := inl_some h
    exact Y_vret (pc := 18) hC hE d_Ly_askLinked_18 h
  · have h := ifp cc_4 h
    cases h
set_option maxHeartbeats 4000000 in
set_option maxRecDepth 100000 in
theorem t_Ly_askLinked (l : Launch) (D : va_G) (cI cZ : ClassId) (a : Nat → Nat) (hN : NoTr l) {V : Sto} {e : Nat} {V' : Sto} (h : f_Ly_askLinked V = some (.inr e, V')) : YMt l D cI cZ a shpC y_Ly_askLinked b_Ly_askLinked 1 (none) rmt_Ly_askLinked [.ref (a 0)] V (exn e) := by
  refine YMt_of hN (by decide) (Nat.le_of_ble_eq_true rfl) ?_
  intro C hl hDD hcI hcZ ha hC hT
  subst hl hDD hcI hcZ ha
  show Y C shpC 1 0 [(0, .ref (C.a 0))] [] V
  rw [f_Ly_askLinked] at h
  refine Y_aload_n (pc := 0) hC d_Ly_askLinked_0 rfl 0 rfl ?_
  refine Y_getI (pc := 1) hC sc_0 fl_Ly_243 rfl d_Ly_askLinked_1 ?_
  refine Y_if_ne (pc := 4) hC 18 d_Ly_askLinked_4 rfl (fun cc_4 => ?_) (fun cc_4 => ?_)
  · have h := ifn cc_4 h
    cases h
  · have h := ifp cc_4 h
    cases h
    exact Y_throwW (pc := 7) (E := "java/lang/IllegalStateException") (tx := "nothing is linked") (len := 3) (names := ["java/lang/RuntimeException", "java/lang/Exception"]) hC hT tok_Ly_327_323 (by decide) rfl (by decide) d_Ly_askLinked_7 d_Ly_askLinked_10 (Or.inr ⟨d_Ly_askLinked_11, rfl⟩) d_Ly_askLinked_14 d_Ly_askLinked_17
set_option maxHeartbeats 4000000 in
set_option maxRecDepth 100000 in
theorem c_Ly_isIn (l : Launch) (D : va_G) (cI cZ : ClassId) (a : Nat → Nat) {V : Sto} {p1 : Int32} {r : Int32} {V' : Sto} (h : f_Ly_isIn V p1 = some (.inl r, V')) : YMi l D cI cZ a shpC y_Ly_isIn b_Ly_isIn 2 (some .boolean) rm_Ly_isIn false [.ref (a 0), .int p1] V r V' := by
  refine YMi_of (by decide) (Nat.le_of_ble_eq_true rfl) ?_
  intro C hl hDD hcI hcZ ha hC hw hE
  subst hl hDD hcI hcZ ha
  show Y C shpC 2 0 [(0, .ref (C.a 0)), (1, .int p1)] [] V
  rw [f_Ly_isIn] at h
  refine Y_aload_n (pc := 0) hC d_Ly_isIn_0 rfl 0 rfl ?_
  obtain ⟨r1, V1, hc_r1, h⟩ := clT_ret h
  refine Y_callVv (pc := 1) hC (c_Ly_askLinked C.l C.D C.cI C.cZ C.a hc_r1) (fun q => nomatch q) sc_0 cls_Ly ml_Ly_254 mv_Ly_askLinked (by decide) (Nat.le_of_ble_eq_true rfl) rfl d_Ly_isIn_1 ?_
  refine Y_aload_n (pc := 4) hC d_Ly_isIn_4 rfl 0 rfl ?_
  refine Y_getR (pc := 5) hC sc_0 fl_Ly_10 rfl d_Ly_isIn_5 ?_
  refine Y_iload_n (pc := 8) hC d_Ly_isIn_8 rfl 1 rfl ?_
  obtain ⟨r2, V2, hc_r2, h⟩ := cl_some h
  refine Y_callV (pc := 9) hC (c_Un_has C.l C.D C.cI C.cZ C.a hc_r2) (fun q => nomatch q) sc_1 cls_Un ml_Ly_130 mv_Un_has (by decide) (Nat.le_of_ble_eq_true rfl) rfl d_Ly_isIn_9 ?_
  refine Y_if_ne (pc := 12) hC 26 d_Ly_isIn_12 rfl (fun cc_12 => ?_) (fun cc_12 => ?_)
  · have h := ifn cc_12 h
    refine Y_aload_n (pc := 26) hC d_Ly_isIn_26 rfl 0 rfl ?_
    refine Y_getR (pc := 27) hC sc_0 fl_Ly_10 rfl d_Ly_isIn_27 ?_
    refine Y_getR (pc := 30) hC sc_1 fl_Ly_259 rfl d_Ly_isIn_30 ?_
    refine Y_iload_n (pc := 33) hC d_Ly_isIn_33 rfl 1 rfl ?_
    obtain ⟨hi, h⟩ := ck_some h
    refine Y_zald (pc := 34) hC sc_13 rfl hi d_Ly_isIn_34 ?_
    obtain ⟨hbb, h⟩ := ck_some h
    have h := inl_some h
    exact Y_zret (pc := 35) hC hE d_Ly_isIn_35 hbb h
  · have h := ifp cc_12 h
    cases h
set_option maxHeartbeats 4000000 in
set_option maxRecDepth 100000 in
theorem t_Ly_isIn (l : Launch) (D : va_G) (cI cZ : ClassId) (a : Nat → Nat) (hN : NoTr l) {V : Sto} {p1 : Int32} {e : Nat} {V' : Sto} (h : f_Ly_isIn V p1 = some (.inr e, V')) : YMt l D cI cZ a shpC y_Ly_isIn b_Ly_isIn 2 (some .boolean) rmt_Ly_isIn [.ref (a 0), .int p1] V (exn e) := by
  refine YMt_of hN (by decide) (Nat.le_of_ble_eq_true rfl) ?_
  intro C hl hDD hcI hcZ ha hC hT
  subst hl hDD hcI hcZ ha
  show Y C shpC 2 0 [(0, .ref (C.a 0)), (1, .int p1)] [] V
  rw [f_Ly_isIn] at h
  refine Y_aload_n (pc := 0) hC d_Ly_isIn_0 rfl 0 rfl ?_
  rcases clT_thr h with h | ⟨r1, V1, hc_r1, h⟩
  · exact Y_callT (pc := 1) hC hT (t_Ly_askLinked C.l C.D C.cI C.cZ C.a hN h) sc_0 cls_Ly ml_Ly_254 mv_Ly_askLinked (by decide) (Nat.le_of_ble_eq_true rfl) rfl d_Ly_isIn_1
  refine Y_callVv (pc := 1) hC (c_Ly_askLinked C.l C.D C.cI C.cZ C.a hc_r1) (fun q => nomatch q) sc_0 cls_Ly ml_Ly_254 mv_Ly_askLinked (by decide) (Nat.le_of_ble_eq_true rfl) rfl d_Ly_isIn_1 ?_
  refine Y_aload_n (pc := 4) hC d_Ly_isIn_4 rfl 0 rfl ?_
  refine Y_getR (pc := 5) hC sc_0 fl_Ly_10 rfl d_Ly_isIn_5 ?_
  refine Y_iload_n (pc := 8) hC d_Ly_isIn_8 rfl 1 rfl ?_
  obtain ⟨r2, V2, hc_r2, h⟩ := cl_some h
  refine Y_callV (pc := 9) hC (c_Un_has C.l C.D C.cI C.cZ C.a hc_r2) (fun q => nomatch q) sc_1 cls_Un ml_Ly_130 mv_Un_has (by decide) (Nat.le_of_ble_eq_true rfl) rfl d_Ly_isIn_9 ?_
  refine Y_if_ne (pc := 12) hC 26 d_Ly_isIn_12 rfl (fun cc_12 => ?_) (fun cc_12 => ?_)
  · have h := ifn cc_12 h
    obtain ⟨-, h⟩ := ck_some h
    obtain ⟨-, h⟩ := ck_some h
    cases h
  · have h := ifp cc_12 h
    cases h
    exact Y_throwW (pc := 15) (E := "java/lang/IllegalArgumentException") (tx := "no such unit") (len := 3) (names := ["java/lang/RuntimeException", "java/lang/Exception"]) hC hT tok_Ly_112_108 (by decide) rfl (by decide) d_Ly_isIn_15 d_Ly_isIn_18 (Or.inr ⟨d_Ly_isIn_19, rfl⟩) d_Ly_isIn_22 d_Ly_isIn_25
set_option maxHeartbeats 4000000 in
set_option maxRecDepth 100000 in
theorem c_Ly_askSection (l : Launch) (D : va_G) (cI cZ : ClassId) (a : Nat → Nat) {V : Sto} {p1 : Int32} {r : Int32} {V' : Sto} (h : f_Ly_askSection V p1 = some (.inl r, V')) : YMv l D cI cZ a shpC y_Ly_askSection b_Ly_askSection 2 rm_Ly_askSection false [.ref (a 0), .int p1] V V' := by
  refine YMv_of (by decide) (Nat.le_of_ble_eq_true rfl) ?_
  intro C hl hDD hcI hcZ ha hC hw hE
  subst hl hDD hcI hcZ ha
  show Y C shpC 2 0 [(0, .ref (C.a 0)), (1, .int p1)] [] V
  rw [f_Ly_askSection] at h
  refine Y_aload_n (pc := 0) hC d_Ly_askSection_0 rfl 0 rfl ?_
  refine Y_getR (pc := 1) hC sc_0 fl_Ly_19 rfl d_Ly_askSection_1 ?_
  refine Y_iload_n (pc := 4) hC d_Ly_askSection_4 rfl 1 rfl ?_
  obtain ⟨r1, V1, hc_r1, h⟩ := cl_some h
  refine Y_callV (pc := 5) hC (c_Se_has C.l C.D C.cI C.cZ C.a hc_r1) (fun q => nomatch q) sc_2 cls_Se ml_Ly_164 mv_Se_has (by decide) (Nat.le_of_ble_eq_true rfl) rfl d_Ly_askSection_5 ?_
  refine Y_if_ne (pc := 8) hC 21 d_Ly_askSection_8 rfl (fun cc_8 => ?_) (fun cc_8 => ?_)
  · have h := ifn cc_8 h
    have h := inl_some h
    exact Y_vret (pc := 21) hC hE d_Ly_askSection_21 h
  · have h := ifp cc_8 h
    cases h
set_option maxHeartbeats 4000000 in
set_option maxRecDepth 100000 in
theorem t_Ly_askSection (l : Launch) (D : va_G) (cI cZ : ClassId) (a : Nat → Nat) (hN : NoTr l) {V : Sto} {p1 : Int32} {e : Nat} {V' : Sto} (h : f_Ly_askSection V p1 = some (.inr e, V')) : YMt l D cI cZ a shpC y_Ly_askSection b_Ly_askSection 2 (none) rmt_Ly_askSection [.ref (a 0), .int p1] V (exn e) := by
  refine YMt_of hN (by decide) (Nat.le_of_ble_eq_true rfl) ?_
  intro C hl hDD hcI hcZ ha hC hT
  subst hl hDD hcI hcZ ha
  show Y C shpC 2 0 [(0, .ref (C.a 0)), (1, .int p1)] [] V
  rw [f_Ly_askSection] at h
  refine Y_aload_n (pc := 0) hC d_Ly_askSection_0 rfl 0 rfl ?_
  refine Y_getR (pc := 1) hC sc_0 fl_Ly_19 rfl d_Ly_askSection_1 ?_
  refine Y_iload_n (pc := 4) hC d_Ly_askSection_4 rfl 1 rfl ?_
  obtain ⟨r1, V1, hc_r1, h⟩ := cl_some h
  refine Y_callV (pc := 5) hC (c_Se_has C.l C.D C.cI C.cZ C.a hc_r1) (fun q => nomatch q) sc_2 cls_Se ml_Ly_164 mv_Se_has (by decide) (Nat.le_of_ble_eq_true rfl) rfl d_Ly_askSection_5 ?_
  refine Y_if_ne (pc := 8) hC 21 d_Ly_askSection_8 rfl (fun cc_8 => ?_) (fun cc_8 => ?_)
  · have h := ifn cc_8 h
    cases h
  · have h := ifp cc_8 h
    cases h
    exact Y_throwW (pc := 11) (E := "java/lang/IllegalArgumentException") (tx := "no such section") (len := 2) (names := ["java/lang/RuntimeException", "java/lang/Exception"]) hC hT tok_Ly_112_108 (by decide) rfl (by decide) d_Ly_askSection_11 d_Ly_askSection_14 (Or.inl ⟨d_Ly_askSection_15, rfl⟩) d_Ly_askSection_17 d_Ly_askSection_20
set_option maxHeartbeats 4000000 in
set_option maxRecDepth 100000 in
theorem c_Ly_address (l : Launch) (D : va_G) (cI cZ : ClassId) (a : Nat → Nat) {V : Sto} {p1 : Int32} {r : Int32} {V' : Sto} (h : f_Ly_address V p1 = some (.inl r, V')) : YMi l D cI cZ a shpC y_Ly_address b_Ly_address 2 (some .int) rm_Ly_address false [.ref (a 0), .int p1] V r V' := by
  refine YMi_of (by decide) (Nat.le_of_ble_eq_true rfl) ?_
  intro C hl hDD hcI hcZ ha hC hw hE
  subst hl hDD hcI hcZ ha
  show Y C shpC 2 0 [(0, .ref (C.a 0)), (1, .int p1)] [] V
  rw [f_Ly_address] at h
  refine Y_aload_n (pc := 0) hC d_Ly_address_0 rfl 0 rfl ?_
  obtain ⟨r1, V1, hc_r1, h⟩ := clT_ret h
  refine Y_callVv (pc := 1) hC (c_Ly_askLinked C.l C.D C.cI C.cZ C.a hc_r1) (fun q => nomatch q) sc_0 cls_Ly ml_Ly_254 mv_Ly_askLinked (by decide) (Nat.le_of_ble_eq_true rfl) rfl d_Ly_address_1 ?_
  refine Y_aload_n (pc := 4) hC d_Ly_address_4 rfl 0 rfl ?_
  refine Y_iload_n (pc := 5) hC d_Ly_address_5 rfl 1 rfl ?_
  obtain ⟨r2, V2, hc_r2, h⟩ := clT_ret h
  refine Y_callVv (pc := 6) hC (c_Ly_askSection C.l C.D C.cI C.cZ C.a hc_r2) (fun q => nomatch q) sc_0 cls_Ly ml_Ly_262 mv_Ly_askSection (by decide) (Nat.le_of_ble_eq_true rfl) rfl d_Ly_address_6 ?_
  refine Y_aload_n (pc := 9) hC d_Ly_address_9 rfl 0 rfl ?_
  refine Y_getR (pc := 10) hC sc_0 fl_Ly_76 rfl d_Ly_address_10 ?_
  refine Y_getR (pc := 13) hC sc_9 fl_Ly_266 rfl d_Ly_address_13 ?_
  refine Y_iload_n (pc := 16) hC d_Ly_address_16 rfl 1 rfl ?_
  obtain ⟨hi, h⟩ := ck_some h
  refine Y_iald (pc := 17) hC sc_48 rfl hi d_Ly_address_17 ?_
  have h := inl_some h
  exact Y_iret (pc := 18) hC hE d_Ly_address_18 h
set_option maxHeartbeats 4000000 in
set_option maxRecDepth 100000 in
theorem t_Ly_address (l : Launch) (D : va_G) (cI cZ : ClassId) (a : Nat → Nat) (hN : NoTr l) {V : Sto} {p1 : Int32} {e : Nat} {V' : Sto} (h : f_Ly_address V p1 = some (.inr e, V')) : YMt l D cI cZ a shpC y_Ly_address b_Ly_address 2 (some .int) rmt_Ly_address [.ref (a 0), .int p1] V (exn e) := by
  refine YMt_of hN (by decide) (Nat.le_of_ble_eq_true rfl) ?_
  intro C hl hDD hcI hcZ ha hC hT
  subst hl hDD hcI hcZ ha
  show Y C shpC 2 0 [(0, .ref (C.a 0)), (1, .int p1)] [] V
  rw [f_Ly_address] at h
  refine Y_aload_n (pc := 0) hC d_Ly_address_0 rfl 0 rfl ?_
  rcases clT_thr h with h | ⟨r1, V1, hc_r1, h⟩
  · exact Y_callT (pc := 1) hC hT (t_Ly_askLinked C.l C.D C.cI C.cZ C.a hN h) sc_0 cls_Ly ml_Ly_254 mv_Ly_askLinked (by decide) (Nat.le_of_ble_eq_true rfl) rfl d_Ly_address_1
  refine Y_callVv (pc := 1) hC (c_Ly_askLinked C.l C.D C.cI C.cZ C.a hc_r1) (fun q => nomatch q) sc_0 cls_Ly ml_Ly_254 mv_Ly_askLinked (by decide) (Nat.le_of_ble_eq_true rfl) rfl d_Ly_address_1 ?_
  refine Y_aload_n (pc := 4) hC d_Ly_address_4 rfl 0 rfl ?_
  refine Y_iload_n (pc := 5) hC d_Ly_address_5 rfl 1 rfl ?_
  rcases clT_thr h with h | ⟨r2, V2, hc_r2, h⟩
  · exact Y_callT (pc := 6) hC hT (t_Ly_askSection C.l C.D C.cI C.cZ C.a hN h) sc_0 cls_Ly ml_Ly_262 mv_Ly_askSection (by decide) (Nat.le_of_ble_eq_true rfl) rfl d_Ly_address_6
  refine Y_callVv (pc := 6) hC (c_Ly_askSection C.l C.D C.cI C.cZ C.a hc_r2) (fun q => nomatch q) sc_0 cls_Ly ml_Ly_262 mv_Ly_askSection (by decide) (Nat.le_of_ble_eq_true rfl) rfl d_Ly_address_6 ?_
  obtain ⟨-, h⟩ := ck_some h
  cases h
