set_option maxHeartbeats 4000000 in
set_option maxRecDepth 100000 in
theorem c_rangeCheck (l : Launch) (D : va_G) (cI cZ : ClassId) (a : Nat → Nat) {V : Sto} {p0 : Int32} {p1 : Int32} {p2 : Int32} {r : Int32} {V' : Sto} (h : f_rangeCheck V p0 p1 p2 = some (r, V')) : YMv l D cI cZ a shpC y_rangeCheck b_rangeCheck 3 rm_rangeCheck false [.int p0, .int p1, .int p2] V V' := by
  refine YMv_of (by decide) (Nat.le_of_ble_eq_true rfl) ?_
  intro C hl hDD hcI hcZ ha hC hw hE
  subst hl hDD hcI hcZ ha
  show Y C shpC 3 0 [(0, .int p0), (1, .int p1), (2, .int p2)] [] V
  rw [f_rangeCheck] at h
  refine Y_iload_n (pc := 0) hC d_rangeCheck_0 rfl 1 rfl ?_
  refine Y_iload_n (pc := 1) hC d_rangeCheck_1 rfl 2 rfl ?_
  refine Y_icmp_le (pc := 2) hC 46 d_rangeCheck_2 rfl (fun cc_2 => ?_) (fun cc_2 => ?_)
  · have h := ifp cc_2 h
    refine Y_iload_n (pc := 46) hC d_rangeCheck_46 rfl 1 rfl ?_
    refine Y_if_ge (pc := 47) hC 59 d_rangeCheck_47 rfl (fun cc_47 => ?_) (fun cc_47 => ?_)
    · have h := ifp cc_47 h
      refine Y_iload_n (pc := 59) hC d_rangeCheck_59 rfl 2 rfl ?_
      refine Y_iload_n (pc := 60) hC d_rangeCheck_60 rfl 0 rfl ?_
      refine Y_icmp_le (pc := 61) hC 73 d_rangeCheck_61 rfl (fun cc_61 => ?_) (fun cc_61 => ?_)
      · have h := ifp cc_61 h
        exact Y_vret (pc := 73) hC hE d_rangeCheck_73 h
      · have h := ifn cc_61 h
        cases h
    · have h := ifn cc_47 h
      cases h
  · have h := ifn cc_2 h
    cases h
set_option maxHeartbeats 4000000 in
set_option maxRecDepth 100000 in
theorem ylp_fillr14_10 {C : YC} {r : Int32} {V' : Sto} {x2 : Int32} {x3 : Int32} {k27 : Sto → RT} (hC : YF C "java/util/Arrays" b_fillr14 5 rm_fillr14) (hw : YWr C shpC) (hE : YEv C shpC V') (hk27 : ∀ (V1 : Sto), k27 V1 = some (r, V') → Y C shpC 5 27 [] [] V1) : ∀ (n : Nat) (x4 : Int32) (V : Sto), lp_fillr14_10 x2 x3 k27 n x4 V = some (r, V') → Y C shpC 5 10 [(0, .ref (C.a 14)), (2, .int x2), (3, .int x3), (4, .int x4)] [] V := by
  intro n
  induction n with
  | zero =>
    intro x4 V h
    rw [lp_fillr14_10] at h
    cases h
  | succ n ih =>
    intro x4 V h
    rw [lp_fillr14_10] at h
    refine Y_iload (pc := 10) hC d_fillr14_10 3 rfl ?_
    refine Y_iload_n (pc := 12) hC d_fillr14_12 rfl 1 rfl ?_
    refine Y_icmp_ge (pc := 13) hC 27 d_fillr14_13 rfl (fun cc_13 => ?_) (fun cc_13 => ?_)
    · have h := ifp cc_13 h
      refine Y_sub (pc := 27) [] rfl ?_
      exact hk27 _ h
    · have h := ifn cc_13 h
      refine Y_aload_n (pc := 16) hC d_fillr14_16 rfl 0 rfl ?_
      refine Y_iload (pc := 17) hC d_fillr14_17 3 rfl ?_
      refine Y_iload_n (pc := 19) hC d_fillr14_19 rfl 2 rfl ?_
      obtain ⟨hi, h⟩ := ck_some h
      obtain ⟨V2, hV2, h⟩ := nm_some h
      refine Y_iast (pc := 20) hC sc_14 (by decide) rfl hi hw rfl hV2 d_fillr14_20 ?_
      refine Y_iinc (pc := 21) hC (v := x4 + 1) (L' := [(4, .int (x4 + 1)), (0, .ref (C.a 14)), (2, .int x2), (3, .int x3)]) d_fillr14_21 3 rfl rfl (by decide) rfl ?_
      refine Y_goto (pc := 24) hC 10 d_fillr14_24 rfl ?_
      refine Y_sub (pc := 10) [1, 2, 3, 0] rfl ?_
      exact ih _ _ h
set_option maxHeartbeats 4000000 in
set_option maxRecDepth 100000 in
theorem c_fillr14 (l : Launch) (D : va_G) (cI cZ : ClassId) (a : Nat → Nat) {V : Sto} {p1 : Int32} {p2 : Int32} {p3 : Int32} {r : Int32} {V' : Sto} (h : f_fillr14 V p1 p2 p3 = some (r, V')) : YMv l D cI cZ a shpC y_fillr14 b_fillr14 5 rm_fillr14 true [.ref (a 14), .int p1, .int p2, .int p3] V V' := by
  refine YMv_of (by decide) (Nat.le_of_ble_eq_true rfl) ?_
  intro C hl hDD hcI hcZ ha hC hw hE
  subst hl hDD hcI hcZ ha
  show Y C shpC 5 0 [(0, .ref (C.a 14)), (1, .int p1), (2, .int p2), (3, .int p3)] [] V
  have hw := hw rfl
  rw [f_fillr14] at h
  refine Y_aload_n (pc := 0) hC d_fillr14_0 rfl 0 rfl ?_
  refine Y_alen (pc := 1) hC sc_14 rfl d_fillr14_1 ?_
  refine Y_iload_n (pc := 2) hC d_fillr14_2 rfl 1 rfl ?_
  refine Y_iload_n (pc := 3) hC d_fillr14_3 rfl 2 rfl ?_
  obtain ⟨r1, V1, hc_r1, h⟩ := cl_some h
  refine Y_callSv (pc := 4) hC (c_rangeCheck C.l C.D C.cI C.cZ C.a hc_r1) (fun q => nomatch q) ml_Arrays_13 ms_rangeCheck (by decide) (Nat.le_of_ble_eq_true rfl) rfl d_fillr14_4 ?_
  refine Y_iload_n (pc := 7) hC d_fillr14_7 rfl 1 rfl ?_
  refine Y_istore (pc := 8) hC (L' := [(4, .int p1), (0, .ref (C.a 14)), (1, .int p1), (2, .int p2), (3, .int p3)]) d_fillr14_8 (by decide) rfl ?_
  refine Y_sub (pc := 10) [1, 3, 4, 0] rfl ?_
  refine ylp_fillr14_10 hC hw hE (fun V3 h => ?_) FU _ _ h
  exact Y_vret (pc := 27) hC hE d_fillr14_27 h
