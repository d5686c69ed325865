set_option maxHeartbeats 4000000 in
theorem yt_Se_tail {C : YC} {a0 : Nat → Nat} {c s : Nat} {r : Int32} {V' : Sto} (hC : YF C R_Se b_Se_store 3 (rm_Se_store c s)) (hw : YWr C shpC) (hE : GQv C a0 (rm_Se_store c s) V') (hk : C.k ≤ c ∧ C.n ≤ s) {x2 : Int32} {V : Sto} (h : g_Se_tail V x2 = some (r, V')) : Y C shpC 3 39 [(0, .ref (C.a 2)), (2, .int x2)] [] V := by
  rw [g_Se_tail] at h
  refine Y_aload_n (pc := 39) hC d_Se_store_39 rfl 0 rfl ?_
  refine Y_getR (pc := 40) hC sc_2 fl_Se_9 rfl d_Se_store_40 ?_
  refine Y_aload_n (pc := 43) hC d_Se_store_43 rfl 0 rfl ?_
  refine Y_getI (pc := 44) hC sc_2 fl_Se_42 rfl d_Se_store_44 ?_
  refine Y_iload_n (pc := 47) hC d_Se_store_47 rfl 1 rfl ?_
  refine Y_iconst (pc := 48) hC d_Se_store_48 ki_0 ?_
  obtain ⟨r1, V1, hc_r1, h⟩ := cl_some h
  refine Y_callSv (pc := 49) hC (c_fillr14 C.l C.D C.cI C.cZ C.a hc_r1) (fun _ => hw) ml_Se_68 ms_fillr14 ⟨⟨Nat.le_of_ble_eq_true rfl, Nat.le_of_ble_eq_true rfl⟩, rfl, rfl⟩ (Nat.le_of_ble_eq_true rfl) rfl d_Se_store_49 ?_
  refine Y_aload_n (pc := 52) hC d_Se_store_52 rfl 0 rfl ?_
  refine Y_iload_n (pc := 53) hC d_Se_store_53 rfl 1 rfl ?_
  obtain ⟨V2, hV2, h⟩ := nm_some h
  refine Y_put (pc := 54) hC sc_2 fl_Se_42 rfl (by decide) fp_Se ft_Se_2 rfl rfl hw hV2 d_Se_store_54 ?_
  exact Y_vretG (pc := 57) hC hE d_Se_store_57 hk h
set_option maxHeartbeats 4000000 in
set_option maxRecDepth 100000 in
theorem c_Se_store (l : Launch) (D : va_G) (cI cZ : ClassId) (a : Nat → Nat) {V : Sto} {p1 r : Int32} {V' : Sto} (h : f_Se_store V p1 = some (r, V')) : YMvG l D cI cZ a y_Se_store b_Se_store 3 (rm_Se_store (gc V p1) (gs V p1)) [.ref (a 2), .int p1] V V' := by
  refine YMvG_of (by decide) (Nat.le_of_ble_eq_true rfl) ?_
  intro C hl hDD hcI hcZ ha hC hw hE hk0 hn0
  subst hl hDD hcI hcZ ha
  show Y C shpC 3 0 [(0, .ref (C.a 2)), (1, .int p1)] [] V
  rw [f_Se_store] at h
  refine Y_aload_n (pc := 0) hC d_Se_store_0 rfl 0 rfl ?_
  refine Y_getI (pc := 1) hC sc_2 fl_Se_42 rfl d_Se_store_1 ?_
  refine Y_iload_n (pc := 4) hC d_Se_store_4 rfl 1 rfl ?_
  refine Y_iadd (pc := 5) hC d_Se_store_5 ?_
  refine Y_istore_n (pc := 6) hC (L' := [(2, .int (V 2 2 + p1)), (0, .ref (C.a 2)), (1, .int p1)]) d_Se_store_6 rfl (by decide) rfl ?_
  refine Y_iload_n (pc := 7) hC d_Se_store_7 rfl 0 rfl ?_
  refine Y_aload_n (pc := 8) hC d_Se_store_8 rfl 1 rfl ?_
  refine Y_getR (pc := 9) hC sc_2 fl_Se_9 rfl d_Se_store_9 ?_
  refine Y_alen (pc := 12) hC sc_14 rfl d_Se_store_12 ?_
  refine Y_icmp_le (pc := 13) hC 39 d_Se_store_13 rfl (fun cc_13 => ?_) (fun cc_13 => ?_)
  · have h := ifp (show V 2 2 + p1 ≤ glen V from cc_13) h
    refine Y_sub (pc := 39) [1, 0] rfl ?_
    exact yt_Se_tail hC hw hE ⟨by rw [hk0]; exact Nat.zero_le _, by rw [hn0]; exact Nat.zero_le _⟩ h
  · have h := ifn (show ¬ V 2 2 + p1 ≤ glen V from cc_13) h
    obtain ⟨hg, h⟩ := ck_some h
    have hgc : gc V p1 = 1 := if_neg (show ¬ V 2 2 + p1 ≤ glen V from cc_13)
    have hgs : gs V p1 = (gnew V p1).toNatClampNeg := if_neg (show ¬ V 2 2 + p1 ≤ glen V from cc_13)
    refine Y_aload_n (pc := 16) hC d_Se_store_16 rfl 1 rfl ?_
    refine Y_aload_n (pc := 17) hC d_Se_store_17 rfl 1 rfl ?_
    refine Y_getR (pc := 18) hC sc_2 fl_Se_9 rfl d_Se_store_18 ?_
    refine Y_iload_n (pc := 21) hC d_Se_store_21 rfl 0 rfl ?_
    refine Y_aload_n (pc := 22) hC d_Se_store_22 rfl 1 rfl ?_
    refine Y_getR (pc := 23) hC sc_2 fl_Se_9 rfl d_Se_store_23 ?_
    refine Y_alen (pc := 26) hC sc_14 rfl d_Se_store_26 ?_
    refine Y_callS (pc := 27) hC (c_Se_roomier C.l C.D C.cI C.cZ C.a (show f_Se_roomier V (glen V) = some ((if 100000 < 2 * glen V then 100000 else 2 * glen V), V) from rfl)) (fun q => nomatch q) ml_Se_52 ms_Se_roomier ⟨⟨Nat.le_of_ble_eq_true rfl, Nat.le_of_ble_eq_true rfl⟩, rfl, rfl⟩ (Nat.le_of_ble_eq_true rfl) rfl d_Se_store_27 ?_
    refine Y_mmax (pc := 30) hC mm_Se_56 ⟨Nat.le_of_ble_eq_true rfl, Nat.le_of_ble_eq_true rfl⟩ (Nat.le_of_ble_eq_true rfl) d_Se_store_30 ?_
    refine Y_growM (pc := 33) (n := gnew V p1) (st := []) hC hw hg ml_Se_62 ms_copyOf fl_Se_9 ⟨Nat.le_of_ble_eq_true rfl, Nat.le_of_ble_eq_true rfl, by rw [hk0]; show 0 + 1 ≤ gc V p1; rw [hgc]; exact Nat.le_refl _, by rw [hn0]; show 0 + _ ≤ gs V p1; rw [hgs]; omega⟩ (Nat.le_of_ble_eq_true rfl) d_Se_store_33 d_Se_store_36 (fun C2 hMv hC hw => ?_)
    rw [← hMv.a 2 (by decide)]
    refine Y_sub (pc := 39) [1, 0] rfl ?_
    exact yt_Se_tail hC hw (hMv.v hE) ⟨by rw [hMv.k, hk0]; show 0 + 1 ≤ gc V p1; rw [hgc]; exact Nat.le_refl _, by rw [hMv.n, hn0]; show 0 + _ ≤ gs V p1; rw [hgs]; omega⟩ h
