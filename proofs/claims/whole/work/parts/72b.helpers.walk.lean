set_option maxHeartbeats 4000000 in
set_option maxRecDepth 100000 in
theorem ha_Lw_unit (l : Launch) (D : va_G) (cI cZ cJ : ClassId) (a : Nat → Nat) (o : Nat) (f : Nat → Int64) {V : Sto} {p1 r : Int32} {V' : Sto} (h : f_Ly_unit V p1 = some (.inl r, V')) : HM l D cI cZ cJ y_Lw_unit b_Lw_unit 4 hs_Lw_unit rm_Lw_unit [.ref (a 0), .int p1, .ref o] (wsF cI cZ a V 0 shpC ++ [outC cJ o f]) 0 (HB cI cZ cJ a o V' (fun v => (0 : Int32) = 0 → v = r.toInt64)) := by
  refine HM_of (by decide) (Nat.le_of_ble_eq_true rfl) ?_
  intro C hl hDD hcI hcZ hC hE hXT hNC hJ htb
  subst hl hDD hcI hcZ
  show Z C 4 0 0 0 [(0, .ref (a 0)), (1, .int p1), (2, .ref o)] [] ([] ++ (wsF C.cI C.cZ a V 0 shpC ++ [outC cJ o f]))
  refine Z_aload_n (pc := 0) hC d_Lw_unit_0 rfl 2 rfl ?_
  refine Z_iconst (pc := 1) hC d_Lw_unit_1 ki_0 ?_
  refine Z_aload_n (pc := 2) hC d_Lw_unit_2 rfl 0 rfl ?_
  refine Z_iload_n (pc := 3) hC d_Lw_unit_3 rfl 1 rfl ?_
  refine Z_vi (P := []) (S := [outC cJ o f]) (pc := 4) hC (c_Ly_unit C.l C.D C.cI C.cZ a h) sc_0 cls_Ly ml_LinkYardLaw_7 mv_Ly_unit ⟨⟨Nat.le_refl _, Nat.le_refl _⟩, rfl, rfl⟩ ⟨Nat.le_refl _, Nat.le_refl _⟩ (Nat.le_of_ble_eq_true rfl) rfl d_Lw_unit_4 ?_
  refine Z_i2l (pc := 7) hC d_Lw_unit_7 ?_
  refine Z_last (pc := 8) (X := wsF C.cI C.cZ a V' 0 shpC) (f := f) hC hJ d_Lw_unit_8 (fun f1 hf1 => ?_)
  refine Z_goto (pc := 9) hC 18 d_Lw_unit_9 rfl ?_
  refine Z_iconst (pc := 18) hC d_Lw_unit_18 ki_0 ?_
  exact Z_iretH (pc := 19) hC hE ⟨Nat.le_refl _, Nat.le_refl _⟩ d_Lw_unit_19 rfl ⟨a, f1, rfl, fun _ => hf1, rfl⟩
set_option maxHeartbeats 4000000 in
set_option maxRecDepth 100000 in
theorem ht_Lw_unit_0 (l : Launch) (D : va_G) (cI cZ cJ : ClassId) (a : Nat → Nat) (o : Nat) (f : Nat → Int64) (hN : NoTr l) {V : Sto} {p1 r : Int32} {V' : Sto} (h : f_Ly_unit V p1 = some (.inr 0, V')) : HM l D cI cZ cJ y_Lw_unit b_Lw_unit 4 hs_Lw_unit rmt_Lw_unit [.ref (a 0), .int p1, .ref o] (wsF cI cZ a V 0 shpC ++ [outC cJ o f]) 1 (HB cI cZ cJ a o V (fun v => (1 : Int32) = 0 → v = r.toInt64)) := by
  refine HM_of (by decide) (Nat.le_of_ble_eq_true rfl) ?_
  intro C hl hDD hcI hcZ hC hE hXT hNC hJ htb
  subst hl hDD hcI hcZ
  show Z C 4 0 0 0 [(0, .ref (a 0)), (1, .int p1), (2, .ref o)] [] ([] ++ (wsF C.cI C.cZ a V 0 shpC ++ [outC cJ o f]))
  refine Z_aload_n (pc := 0) hC d_Lw_unit_0 rfl 2 rfl ?_
  refine Z_iconst (pc := 1) hC d_Lw_unit_1 ki_0 ?_
  refine Z_aload_n (pc := 2) hC d_Lw_unit_2 rfl 0 rfl ?_
  refine Z_iload_n (pc := 3) hC d_Lw_unit_3 rfl 1 rfl ?_
  refine Z_catch (P := []) (S := [outC cJ o f]) (pc := 4) hC hXT hNC (t_Ly_unit C.l C.D C.cI C.cZ a hN h) sc_0 cls_Ly ml_LinkYardLaw_7 mv_Ly_unit ⟨⟨Nat.le_refl _, Nat.le_refl _⟩, rfl, rfl⟩ ⟨Nat.le_refl _, Nat.le_refl _⟩ (Nat.le_of_ble_eq_true rfl) rfl d_Lw_unit_4 (h := 12) (by rw [htb]; exact Or.inl ⟨_, _, rfl, ⟨by decide, by decide⟩, by decide, rfl, cl_Lw_13, xw_0⟩) (fun q => ?_)
  refine Z_astore_n (pc := 12) hC (L' := [(3, .ref q), (0, .ref (a 0)), (1, .int p1), (2, .ref o)]) d_Lw_unit_12 rfl (by decide) rfl ?_
  refine Z_iconst (pc := 13) hC d_Lw_unit_13 ki_1 ?_
  exact Z_iretH (pc := 14) hC hE ⟨Nat.le_refl _, Nat.le_refl _⟩ d_Lw_unit_14 rfl ⟨a, f, rfl, fun q => absurd q (by decide), rfl⟩
set_option maxHeartbeats 4000000 in
set_option maxRecDepth 100000 in
theorem ht_Lw_unit_3 (l : Launch) (D : va_G) (cI cZ cJ : ClassId) (a : Nat → Nat) (o : Nat) (f : Nat → Int64) (hN : NoTr l) {V : Sto} {p1 r : Int32} {V' : Sto} (h : f_Ly_unit V p1 = some (.inr 3, V')) : HM l D cI cZ cJ y_Lw_unit b_Lw_unit 4 hs_Lw_unit rmt_Lw_unit [.ref (a 0), .int p1, .ref o] (wsF cI cZ a V 0 shpC ++ [outC cJ o f]) 2 (HB cI cZ cJ a o V (fun v => (2 : Int32) = 0 → v = r.toInt64)) := by
  refine HM_of (by decide) (Nat.le_of_ble_eq_true rfl) ?_
  intro C hl hDD hcI hcZ hC hE hXT hNC hJ htb
  subst hl hDD hcI hcZ
  show Z C 4 0 0 0 [(0, .ref (a 0)), (1, .int p1), (2, .ref o)] [] ([] ++ (wsF C.cI C.cZ a V 0 shpC ++ [outC cJ o f]))
  refine Z_aload_n (pc := 0) hC d_Lw_unit_0 rfl 2 rfl ?_
  refine Z_iconst (pc := 1) hC d_Lw_unit_1 ki_0 ?_
  refine Z_aload_n (pc := 2) hC d_Lw_unit_2 rfl 0 rfl ?_
  refine Z_iload_n (pc := 3) hC d_Lw_unit_3 rfl 1 rfl ?_
  refine Z_catch (P := []) (S := [outC cJ o f]) (pc := 4) hC hXT hNC (t_Ly_unit C.l C.D C.cI C.cZ a hN h) sc_0 cls_Ly ml_LinkYardLaw_7 mv_Ly_unit ⟨⟨Nat.le_refl _, Nat.le_refl _⟩, rfl, rfl⟩ ⟨Nat.le_refl _, Nat.le_refl _⟩ (Nat.le_of_ble_eq_true rfl) rfl d_Lw_unit_4 (h := 15) (by rw [htb]; exact Or.inr ⟨_, _, _, _, rfl, ⟨by decide, by decide⟩, by decide, cl_Lw_13, nc_0, ⟨by decide, by decide⟩, by decide, rfl, cl_Lw_15, xw_3⟩) (fun q => ?_)
  refine Z_astore_n (pc := 15) hC (L' := [(3, .ref q), (0, .ref (a 0)), (1, .int p1), (2, .ref o)]) d_Lw_unit_15 rfl (by decide) rfl ?_
  refine Z_iconst (pc := 16) hC d_Lw_unit_16 ki_2 ?_
  exact Z_iretH (pc := 17) hC hE ⟨Nat.le_refl _, Nat.le_refl _⟩ d_Lw_unit_17 rfl ⟨a, f, rfl, fun q => absurd q (by decide), rfl⟩
abbrev cs_Lw_unit : List (Nat × Int32) := [(0, 1), (3, 2)]
theorem h_Lw_unit (l : Launch) (D : va_G) (cI cZ cJ : ClassId) (a : Nat → Nat) (o : Nat) (f : Nat → Int64) (hN : NoTr l) {V : Sto} {p1 k r : Int32} {V' : Sto} (h : HO cs_Lw_unit (f_Ly_unit V p1) V k r V') : HX l D cI cZ cJ y_Lw_unit b_Lw_unit 4 hs_Lw_unit [.ref (a 0), .int p1, .ref o] (wsF cI cZ a V 0 shpC ++ [outC cJ o f]) k (HB cI cZ cJ a o V' (fun v => k = 0 → v = r.toInt64)) 0 := by
  rcases h with ⟨h, rfl⟩ | ⟨e, hm, h, rfl, hk⟩
  · exact ⟨_, ⟨Nat.le_of_ble_eq_true rfl, Nat.le_of_ble_eq_true rfl, Nat.zero_le _, Nat.zero_le _⟩, ha_Lw_unit l D cI cZ cJ a o f h⟩
  · rcases List.mem_cons.mp hm with hm | hm
    · cases hm
      exact ⟨_, ⟨Nat.le_of_ble_eq_true rfl, Nat.le_of_ble_eq_true rfl, Nat.le_refl _, Nat.le_add_right _ _⟩, ht_Lw_unit_0 l D cI cZ cJ a o f hN (r := r) h⟩
    · rcases List.mem_cons.mp hm with hm | hm
      · cases hm
        exact ⟨_, ⟨Nat.le_of_ble_eq_true rfl, Nat.le_of_ble_eq_true rfl, Nat.le_refl _, Nat.le_add_right _ _⟩, ht_Lw_unit_3 l D cI cZ cJ a o f hN (r := r) h⟩
      · cases hm
set_option maxHeartbeats 4000000 in
set_option maxRecDepth 100000 in
theorem ha_Lw_section (l : Launch) (D : va_G) (cI cZ cJ : ClassId) (a : Nat → Nat) (o : Nat) (f : Nat → Int64) {V : Sto} {p1 p2 p3 p4 r : Int32} {V' : Sto} (h : f_Ly_section V p1 p2 p3 p4 = some (.inl r, V')) : HM l D cI cZ cJ y_Lw_section b_Lw_section 7 hs_Lw_section (rm_Lw_section (gcA V p2 p3) (gsA V p2 p3)) [.ref (a 0), .int p1, .int p2, .int p3, .int p4, .ref o] (wsF cI cZ a V 0 shpC ++ [outC cJ o f]) 0 (HB cI cZ cJ a o V' (fun v => (0 : Int32) = 0 → v = r.toInt64)) := by
  refine HM_of (by decide) (Nat.le_of_ble_eq_true rfl) ?_
  intro C hl hDD hcI hcZ hC hE hXT hNC hJ htb
  subst hl hDD hcI hcZ
  show Z C 7 0 0 0 [(0, .ref (a 0)), (1, .int p1), (2, .int p2), (3, .int p3), (4, .int p4), (5, .ref o)] [] ([] ++ (wsF C.cI C.cZ a V 0 shpC ++ [outC cJ o f]))
  refine Z_aload (pc := 0) hC d_Lw_section_0 5 rfl ?_
  refine Z_iconst (pc := 2) hC d_Lw_section_2 ki_0 ?_
  refine Z_aload_n (pc := 3) hC d_Lw_section_3 rfl 0 rfl ?_
  refine Z_iload_n (pc := 4) hC d_Lw_section_4 rfl 1 rfl ?_
  refine Z_iload_n (pc := 5) hC d_Lw_section_5 rfl 2 rfl ?_
  refine Z_iload_n (pc := 6) hC d_Lw_section_6 rfl 3 rfl ?_
  refine Z_iload (pc := 7) hC d_Lw_section_7 4 rfl ?_
  refine Z_viG (P := []) (S := [outC cJ o f]) (pc := 9) hC (c_Ly_section C.l C.D C.cI C.cZ a h) sc_0 cls_Ly ml_LinkYardLaw_17 mv_Ly_section ⟨Nat.le_refl _, Nat.le_refl _⟩ ⟨Nat.le_of_eq (Nat.zero_add _), Nat.le_of_eq (Nat.zero_add _)⟩ (Nat.le_of_ble_eq_true rfl) rfl d_Lw_section_9 (fun a1 ha1 _ => ?_)
  refine Z_i2l (pc := 12) hC d_Lw_section_12 ?_
  refine Z_last (pc := 13) (X := wsF C.cI C.cZ a1 V' 0 shpC) (f := f) hC hJ d_Lw_section_13 (fun f1 hf1 => ?_)
  refine Z_goto (pc := 14) hC 25 d_Lw_section_14 rfl ?_
  refine Z_iconst (pc := 25) hC d_Lw_section_25 ki_0 ?_
  exact Z_iretH (pc := 26) hC hE ⟨Nat.le_of_eq (Nat.zero_add _), Nat.le_of_eq (Nat.zero_add _)⟩ d_Lw_section_26 rfl ⟨a1, f1, ha1, fun _ => hf1, rfl⟩
set_option maxHeartbeats 4000000 in
set_option maxRecDepth 100000 in
theorem ht_Lw_section_0 (l : Launch) (D : va_G) (cI cZ cJ : ClassId) (a : Nat → Nat) (o : Nat) (f : Nat → Int64) (hN : NoTr l) {V : Sto} {p1 p2 p3 p4 r : Int32} {V' : Sto} (h : f_Ly_section V p1 p2 p3 p4 = some (.inr 0, V')) : HM l D cI cZ cJ y_Lw_section b_Lw_section 7 hs_Lw_section rmt_Lw_section [.ref (a 0), .int p1, .int p2, .int p3, .int p4, .ref o] (wsF cI cZ a V 0 shpC ++ [outC cJ o f]) 1 (HB cI cZ cJ a o V (fun v => (1 : Int32) = 0 → v = r.toInt64)) := by
  refine HM_of (by decide) (Nat.le_of_ble_eq_true rfl) ?_
  intro C hl hDD hcI hcZ hC hE hXT hNC hJ htb
  subst hl hDD hcI hcZ
  show Z C 7 0 0 0 [(0, .ref (a 0)), (1, .int p1), (2, .int p2), (3, .int p3), (4, .int p4), (5, .ref o)] [] ([] ++ (wsF C.cI C.cZ a V 0 shpC ++ [outC cJ o f]))
  refine Z_aload (pc := 0) hC d_Lw_section_0 5 rfl ?_
  refine Z_iconst (pc := 2) hC d_Lw_section_2 ki_0 ?_
  refine Z_aload_n (pc := 3) hC d_Lw_section_3 rfl 0 rfl ?_
  refine Z_iload_n (pc := 4) hC d_Lw_section_4 rfl 1 rfl ?_
  refine Z_iload_n (pc := 5) hC d_Lw_section_5 rfl 2 rfl ?_
  refine Z_iload_n (pc := 6) hC d_Lw_section_6 rfl 3 rfl ?_
  refine Z_iload (pc := 7) hC d_Lw_section_7 4 rfl ?_
  refine Z_catch (P := []) (S := [outC cJ o f]) (pc := 9) hC hXT hNC (t_Ly_section C.l C.D C.cI C.cZ a hN h) sc_0 cls_Ly ml_LinkYardLaw_17 mv_Ly_section ⟨⟨Nat.le_refl _, Nat.le_refl _⟩, rfl, rfl⟩ ⟨Nat.le_refl _, Nat.le_refl _⟩ (Nat.le_of_ble_eq_true rfl) rfl d_Lw_section_9 (h := 17) (by rw [htb]; exact Or.inl ⟨_, _, rfl, ⟨by decide, by decide⟩, by decide, rfl, cl_Lw_13, xw_0⟩) (fun q => ?_)
  refine Z_astore (pc := 17) hC (L' := [(6, .ref q), (0, .ref (a 0)), (1, .int p1), (2, .int p2), (3, .int p3), (4, .int p4), (5, .ref o)]) d_Lw_section_17 (by decide) rfl ?_
  refine Z_iconst (pc := 19) hC d_Lw_section_19 ki_1 ?_
  exact Z_iretH (pc := 20) hC hE ⟨Nat.le_refl _, Nat.le_refl _⟩ d_Lw_section_20 rfl ⟨a, f, rfl, fun q => absurd q (by decide), rfl⟩
set_option maxHeartbeats 4000000 in
set_option maxRecDepth 100000 in
theorem ht_Lw_section_3 (l : Launch) (D : va_G) (cI cZ cJ : ClassId) (a : Nat → Nat) (o : Nat) (f : Nat → Int64) (hN : NoTr l) {V : Sto} {p1 p2 p3 p4 r : Int32} {V' : Sto} (h : f_Ly_section V p1 p2 p3 p4 = some (.inr 3, V')) : HM l D cI cZ cJ y_Lw_section b_Lw_section 7 hs_Lw_section rmt_Lw_section [.ref (a 0), .int p1, .int p2, .int p3, .int p4, .ref o] (wsF cI cZ a V 0 shpC ++ [outC cJ o f]) 2 (HB cI cZ cJ a o V (fun v => (2 : Int32) = 0 → v = r.toInt64)) := by
  refine HM_of (by decide) (Nat.le_of_ble_eq_true rfl) ?_
  intro C hl hDD hcI hcZ hC hE hXT hNC hJ htb
  subst hl hDD hcI hcZ
  show Z C 7 0 0 0 [(0, .ref (a 0)), (1, .int p1), (2, .int p2), (3, .int p3), (4, .int p4), (5, .ref o)] [] ([] ++ (wsF C.cI C.cZ a V 0 shpC ++ [outC cJ o f]))
  refine Z_aload (pc := 0) hC d_Lw_section_0 5 rfl ?_
  refine Z_iconst (pc := 2) hC d_Lw_section_2 ki_0 ?_
  refine Z_aload_n (pc := 3) hC d_Lw_section_3 rfl 0 rfl ?_
  refine Z_iload_n (pc := 4) hC d_Lw_section_4 rfl 1 rfl ?_
  refine Z_iload_n (pc := 5) hC d_Lw_section_5 rfl 2 rfl ?_
  refine Z_iload_n (pc := 6) hC d_Lw_section_6 rfl 3 rfl ?_
  refine Z_iload (pc := 7) hC d_Lw_section_7 4 rfl ?_
  refine Z_catch (P := []) (S := [outC cJ o f]) (pc := 9) hC hXT hNC (t_Ly_section C.l C.D C.cI C.cZ a hN h) sc_0 cls_Ly ml_LinkYardLaw_17 mv_Ly_section ⟨⟨Nat.le_refl _, Nat.le_refl _⟩, rfl, rfl⟩ ⟨Nat.le_refl _, Nat.le_refl _⟩ (Nat.le_of_ble_eq_true rfl) rfl d_Lw_section_9 (h := 21) (by rw [htb]; exact Or.inr ⟨_, _, _, _, rfl, ⟨by decide, by decide⟩, by decide, cl_Lw_13, nc_0, ⟨by decide, by decide⟩, by decide, rfl, cl_Lw_15, xw_3⟩) (fun q => ?_)
  refine Z_astore (pc := 21) hC (L' := [(6, .ref q), (0, .ref (a 0)), (1, .int p1), (2, .int p2), (3, .int p3), (4, .int p4), (5, .ref o)]) d_Lw_section_21 (by decide) rfl ?_
  refine Z_iconst (pc := 23) hC d_Lw_section_23 ki_2 ?_
  exact Z_iretH (pc := 24) hC hE ⟨Nat.le_refl _, Nat.le_refl _⟩ d_Lw_section_24 rfl ⟨a, f, rfl, fun q => absurd q (by decide), rfl⟩
abbrev cs_Lw_section : List (Nat × Int32) := [(0, 1), (3, 2)]
theorem h_Lw_section (l : Launch) (D : va_G) (cI cZ cJ : ClassId) (a : Nat → Nat) (o : Nat) (f : Nat → Int64) (hN : NoTr l) {V : Sto} {p1 p2 p3 p4 k r : Int32} {V' : Sto} (h : HO cs_Lw_section (f_Ly_section V p1 p2 p3 p4) V k r V') : HX l D cI cZ cJ y_Lw_section b_Lw_section 7 hs_Lw_section [.ref (a 0), .int p1, .int p2, .int p3, .int p4, .ref o] (wsF cI cZ a V 0 shpC ++ [outC cJ o f]) k (HB cI cZ cJ a o V' (fun v => k = 0 → v = r.toInt64)) (if k = 0 then gsA V p2 p3 else 0) := by
  rcases h with ⟨h, rfl⟩ | ⟨e, hm, h, rfl, hk⟩
  · exact ⟨_, ⟨Nat.le_of_ble_eq_true rfl, Nat.le_of_ble_eq_true rfl, gcA_le, (by rw [if_pos rfl]; exact Nat.le_add_left _ _)⟩, ha_Lw_section l D cI cZ cJ a o f h⟩
  · rcases List.mem_cons.mp hm with hm | hm
    · cases hm
      exact ⟨_, ⟨Nat.le_of_ble_eq_true rfl, Nat.le_of_ble_eq_true rfl, Nat.le_refl _, Nat.le_add_right _ _⟩, ht_Lw_section_0 l D cI cZ cJ a o f hN (r := r) h⟩
    · rcases List.mem_cons.mp hm with hm | hm
      · cases hm
        exact ⟨_, ⟨Nat.le_of_ble_eq_true rfl, Nat.le_of_ble_eq_true rfl, Nat.le_refl _, Nat.le_add_right _ _⟩, ht_Lw_section_3 l D cI cZ cJ a o f hN (r := r) h⟩
      · cases hm
set_option maxHeartbeats 4000000 in
set_option maxRecDepth 100000 in
theorem ha_Lw_word (l : Launch) (D : va_G) (cI cZ cJ : ClassId) (a : Nat → Nat) (o : Nat) (f : Nat → Int64) {V : Sto} {p1 p2 p3 r : Int32} {V' : Sto} (h : f_Ly_word V p1 p2 p3 = some (.inl r, V')) : HM l D cI cZ cJ y_Lw_word b_Lw_word 5 hs_Lw_word rm_Lw_word [.ref (a 0), .int p1, .int p2, .int p3] (wsF cI cZ a V 0 shpC ++ [outC cJ o f]) 0 (HB cI cZ cJ a o V' (fun _ => True)) := by
  refine HM_of (by decide) (Nat.le_of_ble_eq_true rfl) ?_
  intro C hl hDD hcI hcZ hC hE hXT hNC hJ htb
  subst hl hDD hcI hcZ
  show Z C 5 0 0 0 [(0, .ref (a 0)), (1, .int p1), (2, .int p2), (3, .int p3)] [] ([] ++ (wsF C.cI C.cZ a V 0 shpC ++ [outC cJ o f]))
  refine Z_aload_n (pc := 0) hC d_Lw_word_0 rfl 0 rfl ?_
  refine Z_iload_n (pc := 1) hC d_Lw_word_1 rfl 1 rfl ?_
  refine Z_iload_n (pc := 2) hC d_Lw_word_2 rfl 2 rfl ?_
  refine Z_iload_n (pc := 3) hC d_Lw_word_3 rfl 3 rfl ?_
  refine Z_vv (P := []) (S := [outC cJ o f]) (pc := 4) hC (c_Ly_word C.l C.D C.cI C.cZ a h) sc_0 cls_Ly ml_LinkYardLaw_21 mv_Ly_word ⟨⟨Nat.le_refl _, Nat.le_refl _⟩, rfl, rfl⟩ ⟨Nat.le_refl _, Nat.le_refl _⟩ (Nat.le_of_ble_eq_true rfl) rfl d_Lw_word_4 ?_
  refine Z_goto (pc := 7) hC 14 d_Lw_word_7 rfl ?_
  refine Z_iconst (pc := 14) hC d_Lw_word_14 ki_0 ?_
  exact Z_iretH (pc := 15) hC hE ⟨Nat.le_refl _, Nat.le_refl _⟩ d_Lw_word_15 rfl ⟨a, f, rfl, trivial, rfl⟩
set_option maxHeartbeats 4000000 in
set_option maxRecDepth 100000 in
theorem ht_Lw_word_0 (l : Launch) (D : va_G) (cI cZ cJ : ClassId) (a : Nat → Nat) (o : Nat) (f : Nat → Int64) (hN : NoTr l) {V : Sto} {p1 p2 p3 r : Int32} {V' : Sto} (h : f_Ly_word V p1 p2 p3 = some (.inr 0, V')) : HM l D cI cZ cJ y_Lw_word b_Lw_word 5 hs_Lw_word rmt_Lw_word [.ref (a 0), .int p1, .int p2, .int p3] (wsF cI cZ a V 0 shpC ++ [outC cJ o f]) 1 (HB cI cZ cJ a o V (fun _ => True)) := by
  refine HM_of (by decide) (Nat.le_of_ble_eq_true rfl) ?_
  intro C hl hDD hcI hcZ hC hE hXT hNC hJ htb
  subst hl hDD hcI hcZ
  show Z C 5 0 0 0 [(0, .ref (a 0)), (1, .int p1), (2, .int p2), (3, .int p3)] [] ([] ++ (wsF C.cI C.cZ a V 0 shpC ++ [outC cJ o f]))
  refine Z_aload_n (pc := 0) hC d_Lw_word_0 rfl 0 rfl ?_
  refine Z_iload_n (pc := 1) hC d_Lw_word_1 rfl 1 rfl ?_
  refine Z_iload_n (pc := 2) hC d_Lw_word_2 rfl 2 rfl ?_
  refine Z_iload_n (pc := 3) hC d_Lw_word_3 rfl 3 rfl ?_
  refine Z_catch (P := []) (S := [outC cJ o f]) (pc := 4) hC hXT hNC (t_Ly_word C.l C.D C.cI C.cZ a hN h) sc_0 cls_Ly ml_LinkYardLaw_21 mv_Ly_word ⟨⟨Nat.le_refl _, Nat.le_refl _⟩, rfl, rfl⟩ ⟨Nat.le_refl _, Nat.le_refl _⟩ (Nat.le_of_ble_eq_true rfl) rfl d_Lw_word_4 (h := 10) (by rw [htb]; exact Or.inl ⟨_, _, rfl, ⟨by decide, by decide⟩, by decide, rfl, cl_Lw_13, xw_0⟩) (fun q => ?_)
  refine Z_astore (pc := 10) hC (L' := [(4, .ref q), (0, .ref (a 0)), (1, .int p1), (2, .int p2), (3, .int p3)]) d_Lw_word_10 (by decide) rfl ?_
  refine Z_iconst (pc := 12) hC d_Lw_word_12 ki_1 ?_
  exact Z_iretH (pc := 13) hC hE ⟨Nat.le_refl _, Nat.le_refl _⟩ d_Lw_word_13 rfl ⟨a, f, rfl, trivial, rfl⟩
abbrev cs_Lw_word : List (Nat × Int32) := [(0, 1)]
theorem h_Lw_word (l : Launch) (D : va_G) (cI cZ cJ : ClassId) (a : Nat → Nat) (o : Nat) (f : Nat → Int64) (hN : NoTr l) {V : Sto} {p1 p2 p3 k r : Int32} {V' : Sto} (h : HO cs_Lw_word (f_Ly_word V p1 p2 p3) V k r V') : HX l D cI cZ cJ y_Lw_word b_Lw_word 5 hs_Lw_word [.ref (a 0), .int p1, .int p2, .int p3] (wsF cI cZ a V 0 shpC ++ [outC cJ o f]) k (HB cI cZ cJ a o V' (fun _ => True)) 0 := by
  rcases h with ⟨h, rfl⟩ | ⟨e, hm, h, rfl, hk⟩
  · exact ⟨_, ⟨Nat.le_of_ble_eq_true rfl, Nat.le_of_ble_eq_true rfl, Nat.zero_le _, Nat.zero_le _⟩, ha_Lw_word l D cI cZ cJ a o f h⟩
  · rcases List.mem_cons.mp hm with hm | hm
    · cases hm
      exact ⟨_, ⟨Nat.le_of_ble_eq_true rfl, Nat.le_of_ble_eq_true rfl, Nat.le_refl _, Nat.le_add_right _ _⟩, ht_Lw_word_0 l D cI cZ cJ a o f hN (r := r) h⟩
    · cases hm
set_option maxHeartbeats 4000000 in
set_option maxRecDepth 100000 in
theorem ha_Lw_symbol (l : Launch) (D : va_G) (cI cZ cJ : ClassId) (a : Nat → Nat) (o : Nat) (f : Nat → Int64) {V : Sto} {p1 p2 p3 p4 r : Int32} {V' : Sto} (h : f_Ly_symbol V p1 p2 p3 p4 = some (.inl r, V')) : HM l D cI cZ cJ y_Lw_symbol b_Lw_symbol 7 hs_Lw_symbol rm_Lw_symbol [.ref (a 0), .int p1, .int p2, .int p3, .int p4, .ref o] (wsF cI cZ a V 0 shpC ++ [outC cJ o f]) 0 (HB cI cZ cJ a o V' (fun v => (0 : Int32) = 0 → v = r.toInt64)) := by
  refine HM_of (by decide) (Nat.le_of_ble_eq_true rfl) ?_
  intro C hl hDD hcI hcZ hC hE hXT hNC hJ htb
  subst hl hDD hcI hcZ
  show Z C 7 0 0 0 [(0, .ref (a 0)), (1, .int p1), (2, .int p2), (3, .int p3), (4, .int p4), (5, .ref o)] [] ([] ++ (wsF C.cI C.cZ a V 0 shpC ++ [outC cJ o f]))
  refine Z_aload (pc := 0) hC d_Lw_symbol_0 5 rfl ?_
  refine Z_iconst (pc := 2) hC d_Lw_symbol_2 ki_0 ?_
  refine Z_aload_n (pc := 3) hC d_Lw_symbol_3 rfl 0 rfl ?_
  refine Z_iload_n (pc := 4) hC d_Lw_symbol_4 rfl 1 rfl ?_
  refine Z_iload_n (pc := 5) hC d_Lw_symbol_5 rfl 2 rfl ?_
  refine Z_iload_n (pc := 6) hC d_Lw_symbol_6 rfl 3 rfl ?_
  refine Z_iload (pc := 7) hC d_Lw_symbol_7 4 rfl ?_
  refine Z_vi (P := []) (S := [outC cJ o f]) (pc := 9) hC (c_Ly_symbol C.l C.D C.cI C.cZ a h) sc_0 cls_Ly ml_LinkYardLaw_25 mv_Ly_symbol ⟨⟨Nat.le_refl _, Nat.le_refl _⟩, rfl, rfl⟩ ⟨Nat.le_refl _, Nat.le_refl _⟩ (Nat.le_of_ble_eq_true rfl) rfl d_Lw_symbol_9 ?_
  refine Z_i2l (pc := 12) hC d_Lw_symbol_12 ?_
  refine Z_last (pc := 13) (X := wsF C.cI C.cZ a V' 0 shpC) (f := f) hC hJ d_Lw_symbol_13 (fun f1 hf1 => ?_)
  refine Z_goto (pc := 14) hC 25 d_Lw_symbol_14 rfl ?_
  refine Z_iconst (pc := 25) hC d_Lw_symbol_25 ki_0 ?_
  exact Z_iretH (pc := 26) hC hE ⟨Nat.le_refl _, Nat.le_refl _⟩ d_Lw_symbol_26 rfl ⟨a, f1, rfl, fun _ => hf1, rfl⟩
set_option maxHeartbeats 4000000 in
set_option maxRecDepth 100000 in
theorem ht_Lw_symbol_0 (l : Launch) (D : va_G) (cI cZ cJ : ClassId) (a : Nat → Nat) (o : Nat) (f : Nat → Int64) (hN : NoTr l) {V : Sto} {p1 p2 p3 p4 r : Int32} {V' : Sto} (h : f_Ly_symbol V p1 p2 p3 p4 = some (.inr 0, V')) : HM l D cI cZ cJ y_Lw_symbol b_Lw_symbol 7 hs_Lw_symbol rmt_Lw_symbol [.ref (a 0), .int p1, .int p2, .int p3, .int p4, .ref o] (wsF cI cZ a V 0 shpC ++ [outC cJ o f]) 1 (HB cI cZ cJ a o V (fun v => (1 : Int32) = 0 → v = r.toInt64)) := by
  refine HM_of (by decide) (Nat.le_of_ble_eq_true rfl) ?_
  intro C hl hDD hcI hcZ hC hE hXT hNC hJ htb
  subst hl hDD hcI hcZ
  show Z C 7 0 0 0 [(0, .ref (a 0)), (1, .int p1), (2, .int p2), (3, .int p3), (4, .int p4), (5, .ref o)] [] ([] ++ (wsF C.cI C.cZ a V 0 shpC ++ [outC cJ o f]))
  refine Z_aload (pc := 0) hC d_Lw_symbol_0 5 rfl ?_
  refine Z_iconst (pc := 2) hC d_Lw_symbol_2 ki_0 ?_
  refine Z_aload_n (pc := 3) hC d_Lw_symbol_3 rfl 0 rfl ?_
  refine Z_iload_n (pc := 4) hC d_Lw_symbol_4 rfl 1 rfl ?_
  refine Z_iload_n (pc := 5) hC d_Lw_symbol_5 rfl 2 rfl ?_
  refine Z_iload_n (pc := 6) hC d_Lw_symbol_6 rfl 3 rfl ?_
  refine Z_iload (pc := 7) hC d_Lw_symbol_7 4 rfl ?_
  refine Z_catch (P := []) (S := [outC cJ o f]) (pc := 9) hC hXT hNC (t_Ly_symbol C.l C.D C.cI C.cZ a hN h) sc_0 cls_Ly ml_LinkYardLaw_25 mv_Ly_symbol ⟨⟨Nat.le_refl _, Nat.le_refl _⟩, rfl, rfl⟩ ⟨Nat.le_refl _, Nat.le_refl _⟩ (Nat.le_of_ble_eq_true rfl) rfl d_Lw_symbol_9 (h := 17) (by rw [htb]; exact Or.inl ⟨_, _, rfl, ⟨by decide, by decide⟩, by decide, rfl, cl_Lw_13, xw_0⟩) (fun q => ?_)
  refine Z_astore (pc := 17) hC (L' := [(6, .ref q), (0, .ref (a 0)), (1, .int p1), (2, .int p2), (3, .int p3), (4, .int p4), (5, .ref o)]) d_Lw_symbol_17 (by decide) rfl ?_
  refine Z_iconst (pc := 19) hC d_Lw_symbol_19 ki_1 ?_
  exact Z_iretH (pc := 20) hC hE ⟨Nat.le_refl _, Nat.le_refl _⟩ d_Lw_symbol_20 rfl ⟨a, f, rfl, fun q => absurd q (by decide), rfl⟩
set_option maxHeartbeats 4000000 in
set_option maxRecDepth 100000 in
theorem ht_Lw_symbol_3 (l : Launch) (D : va_G) (cI cZ cJ : ClassId) (a : Nat → Nat) (o : Nat) (f : Nat → Int64) (hN : NoTr l) {V : Sto} {p1 p2 p3 p4 r : Int32} {V' : Sto} (h : f_Ly_symbol V p1 p2 p3 p4 = some (.inr 3, V')) : HM l D cI cZ cJ y_Lw_symbol b_Lw_symbol 7 hs_Lw_symbol rmt_Lw_symbol [.ref (a 0), .int p1, .int p2, .int p3, .int p4, .ref o] (wsF cI cZ a V 0 shpC ++ [outC cJ o f]) 2 (HB cI cZ cJ a o V (fun v => (2 : Int32) = 0 → v = r.toInt64)) := by
  refine HM_of (by decide) (Nat.le_of_ble_eq_true rfl) ?_
  intro C hl hDD hcI hcZ hC hE hXT hNC hJ htb
  subst hl hDD hcI hcZ
  show Z C 7 0 0 0 [(0, .ref (a 0)), (1, .int p1), (2, .int p2), (3, .int p3), (4, .int p4), (5, .ref o)] [] ([] ++ (wsF C.cI C.cZ a V 0 shpC ++ [outC cJ o f]))
  refine Z_aload (pc := 0) hC d_Lw_symbol_0 5 rfl ?_
  refine Z_iconst (pc := 2) hC d_Lw_symbol_2 ki_0 ?_
  refine Z_aload_n (pc := 3) hC d_Lw_symbol_3 rfl 0 rfl ?_
  refine Z_iload_n (pc := 4) hC d_Lw_symbol_4 rfl 1 rfl ?_
  refine Z_iload_n (pc := 5) hC d_Lw_symbol_5 rfl 2 rfl ?_
  refine Z_iload_n (pc := 6) hC d_Lw_symbol_6 rfl 3 rfl ?_
  refine Z_iload (pc := 7) hC d_Lw_symbol_7 4 rfl ?_
  refine Z_catch (P := []) (S := [outC cJ o f]) (pc := 9) hC hXT hNC (t_Ly_symbol C.l C.D C.cI C.cZ a hN h) sc_0 cls_Ly ml_LinkYardLaw_25 mv_Ly_symbol ⟨⟨Nat.le_refl _, Nat.le_refl _⟩, rfl, rfl⟩ ⟨Nat.le_refl _, Nat.le_refl _⟩ (Nat.le_of_ble_eq_true rfl) rfl d_Lw_symbol_9 (h := 21) (by rw [htb]; exact Or.inr ⟨_, _, _, _, rfl, ⟨by decide, by decide⟩, by decide, cl_Lw_13, nc_0, ⟨by decide, by decide⟩, by decide, rfl, cl_Lw_15, xw_3⟩) (fun q => ?_)
  refine Z_astore (pc := 21) hC (L' := [(6, .ref q), (0, .ref (a 0)), (1, .int p1), (2, .int p2), (3, .int p3), (4, .int p4), (5, .ref o)]) d_Lw_symbol_21 (by decide) rfl ?_
  refine Z_iconst (pc := 23) hC d_Lw_symbol_23 ki_2 ?_
  exact Z_iretH (pc := 24) hC hE ⟨Nat.le_refl _, Nat.le_refl _⟩ d_Lw_symbol_24 rfl ⟨a, f, rfl, fun q => absurd q (by decide), rfl⟩
abbrev cs_Lw_symbol : List (Nat × Int32) := [(0, 1), (3, 2)]
theorem h_Lw_symbol (l : Launch) (D : va_G) (cI cZ cJ : ClassId) (a : Nat → Nat) (o : Nat) (f : Nat → Int64) (hN : NoTr l) {V : Sto} {p1 p2 p3 p4 k r : Int32} {V' : Sto} (h : HO cs_Lw_symbol (f_Ly_symbol V p1 p2 p3 p4) V k r V') : HX l D cI cZ cJ y_Lw_symbol b_Lw_symbol 7 hs_Lw_symbol [.ref (a 0), .int p1, .int p2, .int p3, .int p4, .ref o] (wsF cI cZ a V 0 shpC ++ [outC cJ o f]) k (HB cI cZ cJ a o V' (fun v => k = 0 → v = r.toInt64)) 0 := by
  rcases h with ⟨h, rfl⟩ | ⟨e, hm, h, rfl, hk⟩
  · exact ⟨_, ⟨Nat.le_of_ble_eq_true rfl, Nat.le_of_ble_eq_true rfl, Nat.zero_le _, Nat.zero_le _⟩, ha_Lw_symbol l D cI cZ cJ a o f h⟩
  · rcases List.mem_cons.mp hm with hm | hm
    · cases hm
      exact ⟨_, ⟨Nat.le_of_ble_eq_true rfl, Nat.le_of_ble_eq_true rfl, Nat.le_refl _, Nat.le_add_right _ _⟩, ht_Lw_symbol_0 l D cI cZ cJ a o f hN (r := r) h⟩
    · rcases List.mem_cons.mp hm with hm | hm
      · cases hm
        exact ⟨_, ⟨Nat.le_of_ble_eq_true rfl, Nat.le_of_ble_eq_true rfl, Nat.le_refl _, Nat.le_add_right _ _⟩, ht_Lw_symbol_3 l D cI cZ cJ a o f hN (r := r) h⟩
      · cases hm
set_option maxHeartbeats 4000000 in
set_option maxRecDepth 100000 in
theorem ha_Lw_other (l : Launch) (D : va_G) (cI cZ cJ : ClassId) (a : Nat → Nat) (o : Nat) (f : Nat → Int64) {V : Sto} {p1 p2 p3 p4 p5 r : Int32} {V' : Sto} (h : f_Ly_other V p1 p2 p3 p4 p5 = some (.inl r, V')) : HM l D cI cZ cJ y_Lw_other b_Lw_other 8 hs_Lw_other rm_Lw_other [.ref (a 0), .int p1, .int p2, .int p3, .int p4, .int p5, .ref o] (wsF cI cZ a V 0 shpC ++ [outC cJ o f]) 0 (HB cI cZ cJ a o V' (fun v => (0 : Int32) = 0 → v = r.toInt64)) := by
  refine HM_of (by decide) (Nat.le_of_ble_eq_true rfl) ?_
  intro C hl hDD hcI hcZ hC hE hXT hNC hJ htb
  subst hl hDD hcI hcZ
  show Z C 8 0 0 0 [(0, .ref (a 0)), (1, .int p1), (2, .int p2), (3, .int p3), (4, .int p4), (5, .int p5), (6, .ref o)] [] ([] ++ (wsF C.cI C.cZ a V 0 shpC ++ [outC cJ o f]))
  refine Z_aload (pc := 0) hC d_Lw_other_0 6 rfl ?_
  refine Z_iconst (pc := 2) hC d_Lw_other_2 ki_0 ?_
  refine Z_aload_n (pc := 3) hC d_Lw_other_3 rfl 0 rfl ?_
  refine Z_iload_n (pc := 4) hC d_Lw_other_4 rfl 1 rfl ?_
  refine Z_iload_n (pc := 5) hC d_Lw_other_5 rfl 2 rfl ?_
  refine Z_iload_n (pc := 6) hC d_Lw_other_6 rfl 3 rfl ?_
  refine Z_iload (pc := 7) hC d_Lw_other_7 4 rfl ?_
  refine Z_iload (pc := 9) hC d_Lw_other_9 5 rfl ?_
  refine Z_vi (P := []) (S := [outC cJ o f]) (pc := 11) hC (c_Ly_other C.l C.D C.cI C.cZ a h) sc_0 cls_Ly ml_LinkYardLaw_28 mv_Ly_other ⟨⟨Nat.le_refl _, Nat.le_refl _⟩, rfl, rfl⟩ ⟨Nat.le_refl _, Nat.le_refl _⟩ (Nat.le_of_ble_eq_true rfl) rfl d_Lw_other_11 ?_
  refine Z_i2l (pc := 14) hC d_Lw_other_14 ?_
  refine Z_last (pc := 15) (X := wsF C.cI C.cZ a V' 0 shpC) (f := f) hC hJ d_Lw_other_15 (fun f1 hf1 => ?_)
  refine Z_goto (pc := 16) hC 27 d_Lw_other_16 rfl ?_
  refine Z_iconst (pc := 27) hC d_Lw_other_27 ki_0 ?_
  exact Z_iretH (pc := 28) hC hE ⟨Nat.le_refl _, Nat.le_refl _⟩ d_Lw_other_28 rfl ⟨a, f1, rfl, fun _ => hf1, rfl⟩
set_option maxHeartbeats 4000000 in
set_option maxRecDepth 100000 in
theorem ht_Lw_other_0 (l : Launch) (D : va_G) (cI cZ cJ : ClassId) (a : Nat → Nat) (o : Nat) (f : Nat → Int64) (hN : NoTr l) {V : Sto} {p1 p2 p3 p4 p5 r : Int32} {V' : Sto} (h : f_Ly_other V p1 p2 p3 p4 p5 = some (.inr 0, V')) : HM l D cI cZ cJ y_Lw_other b_Lw_other 8 hs_Lw_other rmt_Lw_other [.ref (a 0), .int p1, .int p2, .int p3, .int p4, .int p5, .ref o] (wsF cI cZ a V 0 shpC ++ [outC cJ o f]) 1 (HB cI cZ cJ a o V (fun v => (1 : Int32) = 0 → v = r.toInt64)) := by
  refine HM_of (by decide) (Nat.le_of_ble_eq_true rfl) ?_
  intro C hl hDD hcI hcZ hC hE hXT hNC hJ htb
  subst hl hDD hcI hcZ
  show Z C 8 0 0 0 [(0, .ref (a 0)), (1, .int p1), (2, .int p2), (3, .int p3), (4, .int p4), (5, .int p5), (6, .ref o)] [] ([] ++ (wsF C.cI C.cZ a V 0 shpC ++ [outC cJ o f]))
  refine Z_aload (pc := 0) hC d_Lw_other_0 6 rfl ?_
  refine Z_iconst (pc := 2) hC d_Lw_other_2 ki_0 ?_
  refine Z_aload_n (pc := 3) hC d_Lw_other_3 rfl 0 rfl ?_
  refine Z_iload_n (pc := 4) hC d_Lw_other_4 rfl 1 rfl ?_
  refine Z_iload_n (pc := 5) hC d_Lw_other_5 rfl 2 rfl ?_
  refine Z_iload_n (pc := 6) hC d_Lw_other_6 rfl 3 rfl ?_
  refine Z_iload (pc := 7) hC d_Lw_other_7 4 rfl ?_
  refine Z_iload (pc := 9) hC d_Lw_other_9 5 rfl ?_
  refine Z_catch (P := []) (S := [outC cJ o f]) (pc := 11) hC hXT hNC (t_Ly_other C.l C.D C.cI C.cZ a hN h) sc_0 cls_Ly ml_LinkYardLaw_28 mv_Ly_other ⟨⟨Nat.le_refl _, Nat.le_refl _⟩, rfl, rfl⟩ ⟨Nat.le_refl _, Nat.le_refl _⟩ (Nat.le_of_ble_eq_true rfl) rfl d_Lw_other_11 (h := 19) (by rw [htb]; exact Or.inl ⟨_, _, rfl, ⟨by decide, by decide⟩, by decide, rfl, cl_Lw_13, xw_0⟩) (fun q => ?_)
  refine Z_astore (pc := 19) hC (L' := [(7, .ref q), (0, .ref (a 0)), (1, .int p1), (2, .int p2), (3, .int p3), (4, .int p4), (5, .int p5), (6, .ref o)]) d_Lw_other_19 (by decide) rfl ?_
  refine Z_iconst (pc := 21) hC d_Lw_other_21 ki_1 ?_
  exact Z_iretH (pc := 22) hC hE ⟨Nat.le_refl _, Nat.le_refl _⟩ d_Lw_other_22 rfl ⟨a, f, rfl, fun q => absurd q (by decide), rfl⟩
set_option maxHeartbeats 4000000 in
set_option maxRecDepth 100000 in
theorem ht_Lw_other_3 (l : Launch) (D : va_G) (cI cZ cJ : ClassId) (a : Nat → Nat) (o : Nat) (f : Nat → Int64) (hN : NoTr l) {V : Sto} {p1 p2 p3 p4 p5 r : Int32} {V' : Sto} (h : f_Ly_other V p1 p2 p3 p4 p5 = some (.inr 3, V')) : HM l D cI cZ cJ y_Lw_other b_Lw_other 8 hs_Lw_other rmt_Lw_other [.ref (a 0), .int p1, .int p2, .int p3, .int p4, .int p5, .ref o] (wsF cI cZ a V 0 shpC ++ [outC cJ o f]) 2 (HB cI cZ cJ a o V (fun v => (2 : Int32) = 0 → v = r.toInt64)) := by
  refine HM_of (by decide) (Nat.le_of_ble_eq_true rfl) ?_
  intro C hl hDD hcI hcZ hC hE hXT hNC hJ htb
  subst hl hDD hcI hcZ
  show Z C 8 0 0 0 [(0, .ref (a 0)), (1, .int p1), (2, .int p2), (3, .int p3), (4, .int p4), (5, .int p5), (6, .ref o)] [] ([] ++ (wsF C.cI C.cZ a V 0 shpC ++ [outC cJ o f]))
  refine Z_aload (pc := 0) hC d_Lw_other_0 6 rfl ?_
  refine Z_iconst (pc := 2) hC d_Lw_other_2 ki_0 ?_
  refine Z_aload_n (pc := 3) hC d_Lw_other_3 rfl 0 rfl ?_
  refine Z_iload_n (pc := 4) hC d_Lw_other_4 rfl 1 rfl ?_
  refine Z_iload_n (pc := 5) hC d_Lw_other_5 rfl 2 rfl ?_
  refine Z_iload_n (pc := 6) hC d_Lw_other_6 rfl 3 rfl ?_
  refine Z_iload (pc := 7) hC d_Lw_other_7 4 rfl ?_
  refine Z_iload (pc := 9) hC d_Lw_other_9 5 rfl ?_
  refine Z_catch (P := []) (S := [outC cJ o f]) (pc := 11) hC hXT hNC (t_Ly_other C.l C.D C.cI C.cZ a hN h) sc_0 cls_Ly ml_LinkYardLaw_28 mv_Ly_other ⟨⟨Nat.le_refl _, Nat.le_refl _⟩, rfl, rfl⟩ ⟨Nat.le_refl _, Nat.le_refl _⟩ (Nat.le_of_ble_eq_true rfl) rfl d_Lw_other_11 (h := 23) (by rw [htb]; exact Or.inr ⟨_, _, _, _, rfl, ⟨by decide, by decide⟩, by decide, cl_Lw_13, nc_0, ⟨by decide, by decide⟩, by decide, rfl, cl_Lw_15, xw_3⟩) (fun q => ?_)
  refine Z_astore (pc := 23) hC (L' := [(7, .ref q), (0, .ref (a 0)), (1, .int p1), (2, .int p2), (3, .int p3), (4, .int p4), (5, .int p5), (6, .ref o)]) d_Lw_other_23 (by decide) rfl ?_
  refine Z_iconst (pc := 25) hC d_Lw_other_25 ki_2 ?_
  exact Z_iretH (pc := 26) hC hE ⟨Nat.le_refl _, Nat.le_refl _⟩ d_Lw_other_26 rfl ⟨a, f, rfl, fun q => absurd q (by decide), rfl⟩
abbrev cs_Lw_other : List (Nat × Int32) := [(0, 1), (3, 2)]
theorem h_Lw_other (l : Launch) (D : va_G) (cI cZ cJ : ClassId) (a : Nat → Nat) (o : Nat) (f : Nat → Int64) (hN : NoTr l) {V : Sto} {p1 p2 p3 p4 p5 k r : Int32} {V' : Sto} (h : HO cs_Lw_other (f_Ly_other V p1 p2 p3 p4 p5) V k r V') : HX l D cI cZ cJ y_Lw_other b_Lw_other 8 hs_Lw_other [.ref (a 0), .int p1, .int p2, .int p3, .int p4, .int p5, .ref o] (wsF cI cZ a V 0 shpC ++ [outC cJ o f]) k (HB cI cZ cJ a o V' (fun v => k = 0 → v = r.toInt64)) 0 := by
  rcases h with ⟨h, rfl⟩ | ⟨e, hm, h, rfl, hk⟩
  · exact ⟨_, ⟨Nat.le_of_ble_eq_true rfl, Nat.le_of_ble_eq_true rfl, Nat.zero_le _, Nat.zero_le _⟩, ha_Lw_other l D cI cZ cJ a o f h⟩
  · rcases List.mem_cons.mp hm with hm | hm
    · cases hm
      exact ⟨_, ⟨Nat.le_of_ble_eq_true rfl, Nat.le_of_ble_eq_true rfl, Nat.le_refl _, Nat.le_add_right _ _⟩, ht_Lw_other_0 l D cI cZ cJ a o f hN (r := r) h⟩
    · rcases List.mem_cons.mp hm with hm | hm
      · cases hm
        exact ⟨_, ⟨Nat.le_of_ble_eq_true rfl, Nat.le_of_ble_eq_true rfl, Nat.le_refl _, Nat.le_add_right _ _⟩, ht_Lw_other_3 l D cI cZ cJ a o f hN (r := r) h⟩
      · cases hm
set_option maxHeartbeats 4000000 in
set_option maxRecDepth 100000 in
theorem ha_Lw_relocation (l : Launch) (D : va_G) (cI cZ cJ : ClassId) (a : Nat → Nat) (o : Nat) (f : Nat → Int64) {V : Sto} {p1 p2 p3 p4 p5 r : Int32} {V' : Sto} (h : f_Ly_relocation V p1 p2 p3 p4 p5 = some (.inl r, V')) : HM l D cI cZ cJ y_Lw_relocation b_Lw_relocation 8 hs_Lw_relocation rm_Lw_relocation [.ref (a 0), .int p1, .int p2, .int p3, .int p4, .int p5, .ref o] (wsF cI cZ a V 0 shpC ++ [outC cJ o f]) 0 (HB cI cZ cJ a o V' (fun v => (0 : Int32) = 0 → v = r.toInt64)) := by
  refine HM_of (by decide) (Nat.le_of_ble_eq_true rfl) ?_
  intro C hl hDD hcI hcZ hC hE hXT hNC hJ htb
  subst hl hDD hcI hcZ
  show Z C 8 0 0 0 [(0, .ref (a 0)), (1, .int p1), (2, .int p2), (3, .int p3), (4, .int p4), (5, .int p5), (6, .ref o)] [] ([] ++ (wsF C.cI C.cZ a V 0 shpC ++ [outC cJ o f]))
  refine Z_aload (pc := 0) hC d_Lw_relocation_0 6 rfl ?_
  refine Z_iconst (pc := 2) hC d_Lw_relocation_2 ki_0 ?_
  refine Z_aload_n (pc := 3) hC d_Lw_relocation_3 rfl 0 rfl ?_
  refine Z_iload_n (pc := 4) hC d_Lw_relocation_4 rfl 1 rfl ?_
  refine Z_iload_n (pc := 5) hC d_Lw_relocation_5 rfl 2 rfl ?_
  refine Z_iload_n (pc := 6) hC d_Lw_relocation_6 rfl 3 rfl ?_
  refine Z_iload (pc := 7) hC d_Lw_relocation_7 4 rfl ?_
  refine Z_iload (pc := 9) hC d_Lw_relocation_9 5 rfl ?_
  refine Z_vi (P := []) (S := [outC cJ o f]) (pc := 11) hC (c_Ly_relocation C.l C.D C.cI C.cZ a h) sc_0 cls_Ly ml_LinkYardLaw_32 mv_Ly_relocation ⟨⟨Nat.le_refl _, Nat.le_refl _⟩, rfl, rfl⟩ ⟨Nat.le_refl _, Nat.le_refl _⟩ (Nat.le_of_ble_eq_true rfl) rfl d_Lw_relocation_11 ?_
  refine Z_i2l (pc := 14) hC d_Lw_relocation_14 ?_
  refine Z_last (pc := 15) (X := wsF C.cI C.cZ a V' 0 shpC) (f := f) hC hJ d_Lw_relocation_15 (fun f1 hf1 => ?_)
  refine Z_goto (pc := 16) hC 27 d_Lw_relocation_16 rfl ?_
  refine Z_iconst (pc := 27) hC d_Lw_relocation_27 ki_0 ?_
  exact Z_iretH (pc := 28) hC hE ⟨Nat.le_refl _, Nat.le_refl _⟩ d_Lw_relocation_28 rfl ⟨a, f1, rfl, fun _ => hf1, rfl⟩
set_option maxHeartbeats 4000000 in
set_option maxRecDepth 100000 in
theorem ht_Lw_relocation_0 (l : Launch) (D : va_G) (cI cZ cJ : ClassId) (a : Nat → Nat) (o : Nat) (f : Nat → Int64) (hN : NoTr l) {V : Sto} {p1 p2 p3 p4 p5 r : Int32} {V' : Sto} (h : f_Ly_relocation V p1 p2 p3 p4 p5 = some (.inr 0, V')) : HM l D cI cZ cJ y_Lw_relocation b_Lw_relocation 8 hs_Lw_relocation rmt_Lw_relocation [.ref (a 0), .int p1, .int p2, .int p3, .int p4, .int p5, .ref o] (wsF cI cZ a V 0 shpC ++ [outC cJ o f]) 1 (HB cI cZ cJ a o V (fun v => (1 : Int32) = 0 → v = r.toInt64)) := by
  refine HM_of (by decide) (Nat.le_of_ble_eq_true rfl) ?_
  intro C hl hDD hcI hcZ hC hE hXT hNC hJ htb
  subst hl hDD hcI hcZ
  show Z C 8 0 0 0 [(0, .ref (a 0)), (1, .int p1), (2, .int p2), (3, .int p3), (4, .int p4), (5, .int p5), (6, .ref o)] [] ([] ++ (wsF C.cI C.cZ a V 0 shpC ++ [outC cJ o f]))
  refine Z_aload (pc := 0) hC d_Lw_relocation_0 6 rfl ?_
  refine Z_iconst (pc := 2) hC d_Lw_relocation_2 ki_0 ?_
  refine Z_aload_n (pc := 3) hC d_Lw_relocation_3 rfl 0 rfl ?_
  refine Z_iload_n (pc := 4) hC d_Lw_relocation_4 rfl 1 rfl ?_
  refine Z_iload_n (pc := 5) hC d_Lw_relocation_5 rfl 2 rfl ?_
  refine Z_iload_n (pc := 6) hC d_Lw_relocation_6 rfl 3 rfl ?_
  refine Z_iload (pc := 7) hC d_Lw_relocation_7 4 rfl ?_
  refine Z_iload (pc := 9) hC d_Lw_relocation_9 5 rfl ?_
  refine Z_catch (P := []) (S := [outC cJ o f]) (pc := 11) hC hXT hNC (t_Ly_relocation C.l C.D C.cI C.cZ a hN h) sc_0 cls_Ly ml_LinkYardLaw_32 mv_Ly_relocation ⟨⟨Nat.le_refl _, Nat.le_refl _⟩, rfl, rfl⟩ ⟨Nat.le_refl _, Nat.le_refl _⟩ (Nat.le_of_ble_eq_true rfl) rfl d_Lw_relocation_11 (h := 19) (by rw [htb]; exact Or.inl ⟨_, _, rfl, ⟨by decide, by decide⟩, by decide, rfl, cl_Lw_13, xw_0⟩) (fun q => ?_)
  refine Z_astore (pc := 19) hC (L' := [(7, .ref q), (0, .ref (a 0)), (1, .int p1), (2, .int p2), (3, .int p3), (4, .int p4), (5, .int p5), (6, .ref o)]) d_Lw_relocation_19 (by decide) rfl ?_
  refine Z_iconst (pc := 21) hC d_Lw_relocation_21 ki_1 ?_
  exact Z_iretH (pc := 22) hC hE ⟨Nat.le_refl _, Nat.le_refl _⟩ d_Lw_relocation_22 rfl ⟨a, f, rfl, fun q => absurd q (by decide), rfl⟩
set_option maxHeartbeats 4000000 in
set_option maxRecDepth 100000 in
theorem ht_Lw_relocation_3 (l : Launch) (D : va_G) (cI cZ cJ : ClassId) (a : Nat → Nat) (o : Nat) (f : Nat → Int64) (hN : NoTr l) {V : Sto} {p1 p2 p3 p4 p5 r : Int32} {V' : Sto} (h : f_Ly_relocation V p1 p2 p3 p4 p5 = some (.inr 3, V')) : HM l D cI cZ cJ y_Lw_relocation b_Lw_relocation 8 hs_Lw_relocation rmt_Lw_relocation [.ref (a 0), .int p1, .int p2, .int p3, .int p4, .int p5, .ref o] (wsF cI cZ a V 0 shpC ++ [outC cJ o f]) 2 (HB cI cZ cJ a o V (fun v => (2 : Int32) = 0 → v = r.toInt64)) := by
  refine HM_of (by decide) (Nat.le_of_ble_eq_true rfl) ?_
  intro C hl hDD hcI hcZ hC hE hXT hNC hJ htb
  subst hl hDD hcI hcZ
  show Z C 8 0 0 0 [(0, .ref (a 0)), (1, .int p1), (2, .int p2), (3, .int p3), (4, .int p4), (5, .int p5), (6, .ref o)] [] ([] ++ (wsF C.cI C.cZ a V 0 shpC ++ [outC cJ o f]))
  refine Z_aload (pc := 0) hC d_Lw_relocation_0 6 rfl ?_
  refine Z_iconst (pc := 2) hC d_Lw_relocation_2 ki_0 ?_
  refine Z_aload_n (pc := 3) hC d_Lw_relocation_3 rfl 0 rfl ?_
  refine Z_iload_n (pc := 4) hC d_Lw_relocation_4 rfl 1 rfl ?_
  refine Z_iload_n (pc := 5) hC d_Lw_relocation_5 rfl 2 rfl ?_
  refine Z_iload_n (pc := 6) hC d_Lw_relocation_6 rfl 3 rfl ?_
  refine Z_iload (pc := 7) hC d_Lw_relocation_7 4 rfl ?_
  refine Z_iload (pc := 9) hC d_Lw_relocation_9 5 rfl ?_
  refine Z_catch (P := []) (S := [outC cJ o f]) (pc := 11) hC hXT hNC (t_Ly_relocation C.l C.D C.cI C.cZ a hN h) sc_0 cls_Ly ml_LinkYardLaw_32 mv_Ly_relocation ⟨⟨Nat.le_refl _, Nat.le_refl _⟩, rfl, rfl⟩ ⟨Nat.le_refl _, Nat.le_refl _⟩ (Nat.le_of_ble_eq_true rfl) rfl d_Lw_relocation_11 (h := 23) (by rw [htb]; exact Or.inr ⟨_, _, _, _, rfl, ⟨by decide, by decide⟩, by decide, cl_Lw_13, nc_0, ⟨by decide, by decide⟩, by decide, rfl, cl_Lw_15, xw_3⟩) (fun q => ?_)
  refine Z_astore (pc := 23) hC (L' := [(7, .ref q), (0, .ref (a 0)), (1, .int p1), (2, .int p2), (3, .int p3), (4, .int p4), (5, .int p5), (6, .ref o)]) d_Lw_relocation_23 (by decide) rfl ?_
  refine Z_iconst (pc := 25) hC d_Lw_relocation_25 ki_2 ?_
  exact Z_iretH (pc := 26) hC hE ⟨Nat.le_refl _, Nat.le_refl _⟩ d_Lw_relocation_26 rfl ⟨a, f, rfl, fun q => absurd q (by decide), rfl⟩
abbrev cs_Lw_relocation : List (Nat × Int32) := [(0, 1), (3, 2)]
theorem h_Lw_relocation (l : Launch) (D : va_G) (cI cZ cJ : ClassId) (a : Nat → Nat) (o : Nat) (f : Nat → Int64) (hN : NoTr l) {V : Sto} {p1 p2 p3 p4 p5 k r : Int32} {V' : Sto} (h : HO cs_Lw_relocation (f_Ly_relocation V p1 p2 p3 p4 p5) V k r V') : HX l D cI cZ cJ y_Lw_relocation b_Lw_relocation 8 hs_Lw_relocation [.ref (a 0), .int p1, .int p2, .int p3, .int p4, .int p5, .ref o] (wsF cI cZ a V 0 shpC ++ [outC cJ o f]) k (HB cI cZ cJ a o V' (fun v => k = 0 → v = r.toInt64)) 0 := by
  rcases h with ⟨h, rfl⟩ | ⟨e, hm, h, rfl, hk⟩
  · exact ⟨_, ⟨Nat.le_of_ble_eq_true rfl, Nat.le_of_ble_eq_true rfl, Nat.zero_le _, Nat.zero_le _⟩, ha_Lw_relocation l D cI cZ cJ a o f h⟩
  · rcases List.mem_cons.mp hm with hm | hm
    · cases hm
      exact ⟨_, ⟨Nat.le_of_ble_eq_true rfl, Nat.le_of_ble_eq_true rfl, Nat.le_refl _, Nat.le_add_right _ _⟩, ht_Lw_relocation_0 l D cI cZ cJ a o f hN (r := r) h⟩
    · rcases List.mem_cons.mp hm with hm | hm
      · cases hm
        exact ⟨_, ⟨Nat.le_of_ble_eq_true rfl, Nat.le_of_ble_eq_true rfl, Nat.le_refl _, Nat.le_add_right _ _⟩, ht_Lw_relocation_3 l D cI cZ cJ a o f hN (r := r) h⟩
      · cases hm
set_option maxHeartbeats 4000000 in
set_option maxRecDepth 100000 in
theorem ha_Lw_entry (l : Launch) (D : va_G) (cI cZ cJ : ClassId) (a : Nat → Nat) (o : Nat) (f : Nat → Int64) {V : Sto} {p1 r : Int32} {V' : Sto} (h : f_Ly_entry V p1 = some (.inl r, V')) : HM l D cI cZ cJ y_Lw_entry b_Lw_entry 3 hs_Lw_entry rm_Lw_entry [.ref (a 0), .int p1] (wsF cI cZ a V 0 shpC ++ [outC cJ o f]) 0 (HB cI cZ cJ a o V' (fun _ => True)) := by
  refine HM_of (by decide) (Nat.le_of_ble_eq_true rfl) ?_
  intro C hl hDD hcI hcZ hC hE hXT hNC hJ htb
  subst hl hDD hcI hcZ
  show Z C 3 0 0 0 [(0, .ref (a 0)), (1, .int p1)] [] ([] ++ (wsF C.cI C.cZ a V 0 shpC ++ [outC cJ o f]))
  refine Z_aload_n (pc := 0) hC d_Lw_entry_0 rfl 0 rfl ?_
  refine Z_iload_n (pc := 1) hC d_Lw_entry_1 rfl 1 rfl ?_
  refine Z_vv (P := []) (S := [outC cJ o f]) (pc := 2) hC (c_Ly_entry C.l C.D C.cI C.cZ a h) sc_0 cls_Ly ml_LinkYardLaw_35 mv_Ly_entry ⟨⟨Nat.le_refl _, Nat.le_refl _⟩, rfl, rfl⟩ ⟨Nat.le_refl _, Nat.le_refl _⟩ (Nat.le_of_ble_eq_true rfl) rfl d_Lw_entry_2 ?_
  refine Z_goto (pc := 5) hC 11 d_Lw_entry_5 rfl ?_
  refine Z_iconst (pc := 11) hC d_Lw_entry_11 ki_0 ?_
  exact Z_iretH (pc := 12) hC hE ⟨Nat.le_refl _, Nat.le_refl _⟩ d_Lw_entry_12 rfl ⟨a, f, rfl, trivial, rfl⟩
set_option maxHeartbeats 4000000 in
set_option maxRecDepth 100000 in
theorem ht_Lw_entry_0 (l : Launch) (D : va_G) (cI cZ cJ : ClassId) (a : Nat → Nat) (o : Nat) (f : Nat → Int64) (hN : NoTr l) {V : Sto} {p1 r : Int32} {V' : Sto} (h : f_Ly_entry V p1 = some (.inr 0, V')) : HM l D cI cZ cJ y_Lw_entry b_Lw_entry 3 hs_Lw_entry rmt_Lw_entry [.ref (a 0), .int p1] (wsF cI cZ a V 0 shpC ++ [outC cJ o f]) 1 (HB cI cZ cJ a o V (fun _ => True)) := by
  refine HM_of (by decide) (Nat.le_of_ble_eq_true rfl) ?_
  intro C hl hDD hcI hcZ hC hE hXT hNC hJ htb
  subst hl hDD hcI hcZ
  show Z C 3 0 0 0 [(0, .ref (a 0)), (1, .int p1)] [] ([] ++ (wsF C.cI C.cZ a V 0 shpC ++ [outC cJ o f]))
  refine Z_aload_n (pc := 0) hC d_Lw_entry_0 rfl 0 rfl ?_
  refine Z_iload_n (pc := 1) hC d_Lw_entry_1 rfl 1 rfl ?_
  refine Z_catch (P := []) (S := [outC cJ o f]) (pc := 2) hC hXT hNC (t_Ly_entry C.l C.D C.cI C.cZ a hN h) sc_0 cls_Ly ml_LinkYardLaw_35 mv_Ly_entry ⟨⟨Nat.le_refl _, Nat.le_refl _⟩, rfl, rfl⟩ ⟨Nat.le_refl _, Nat.le_refl _⟩ (Nat.le_of_ble_eq_true rfl) rfl d_Lw_entry_2 (h := 8) (by rw [htb]; exact Or.inl ⟨_, _, rfl, ⟨by decide, by decide⟩, by decide, rfl, cl_Lw_13, xw_0⟩) (fun q => ?_)
  refine Z_astore_n (pc := 8) hC (L' := [(2, .ref q), (0, .ref (a 0)), (1, .int p1)]) d_Lw_entry_8 rfl (by decide) rfl ?_
  refine Z_iconst (pc := 9) hC d_Lw_entry_9 ki_1 ?_
  exact Z_iretH (pc := 10) hC hE ⟨Nat.le_refl _, Nat.le_refl _⟩ d_Lw_entry_10 rfl ⟨a, f, rfl, trivial, rfl⟩
abbrev cs_Lw_entry : List (Nat × Int32) := [(0, 1)]
theorem h_Lw_entry (l : Launch) (D : va_G) (cI cZ cJ : ClassId) (a : Nat → Nat) (o : Nat) (f : Nat → Int64) (hN : NoTr l) {V : Sto} {p1 k r : Int32} {V' : Sto} (h : HO cs_Lw_entry (f_Ly_entry V p1) V k r V') : HX l D cI cZ cJ y_Lw_entry b_Lw_entry 3 hs_Lw_entry [.ref (a 0), .int p1] (wsF cI cZ a V 0 shpC ++ [outC cJ o f]) k (HB cI cZ cJ a o V' (fun _ => True)) 0 := by
  rcases h with ⟨h, rfl⟩ | ⟨e, hm, h, rfl, hk⟩
  · exact ⟨_, ⟨Nat.le_of_ble_eq_true rfl, Nat.le_of_ble_eq_true rfl, Nat.zero_le _, Nat.zero_le _⟩, ha_Lw_entry l D cI cZ cJ a o f h⟩
  · rcases List.mem_cons.mp hm with hm | hm
    · cases hm
      exact ⟨_, ⟨Nat.le_of_ble_eq_true rfl, Nat.le_of_ble_eq_true rfl, Nat.le_refl _, Nat.le_add_right _ _⟩, ht_Lw_entry_0 l D cI cZ cJ a o f hN (r := r) h⟩
    · cases hm
set_option maxHeartbeats 4000000 in
set_option maxRecDepth 100000 in
theorem ha_Lw_keep (l : Launch) (D : va_G) (cI cZ cJ : ClassId) (a : Nat → Nat) (o : Nat) (f : Nat → Int64) {V : Sto} {p1 p2 r : Int32} {V' : Sto} (h : f_Ly_keep V p1 p2 = some (.inl r, V')) : HM l D cI cZ cJ y_Lw_keep b_Lw_keep 4 hs_Lw_keep rm_Lw_keep [.ref (a 0), .int p1, .int p2] (wsF cI cZ a V 0 shpC ++ [outC cJ o f]) 0 (HB cI cZ cJ a o V' (fun _ => True)) := by
  refine HM_of (by decide) (Nat.le_of_ble_eq_true rfl) ?_
  intro C hl hDD hcI hcZ hC hE hXT hNC hJ htb
  subst hl hDD hcI hcZ
  show Z C 4 0 0 0 [(0, .ref (a 0)), (1, .int p1), (2, .int p2)] [] ([] ++ (wsF C.cI C.cZ a V 0 shpC ++ [outC cJ o f]))
  refine Z_aload_n (pc := 0) hC d_Lw_keep_0 rfl 0 rfl ?_
  refine Z_iload_n (pc := 1) hC d_Lw_keep_1 rfl 1 rfl ?_
  refine Z_iload_n (pc := 2) hC d_Lw_keep_2 rfl 2 rfl ?_
  refine Z_vv (P := []) (S := [outC cJ o f]) (pc := 3) hC (c_Ly_keep C.l C.D C.cI C.cZ a h) sc_0 cls_Ly ml_LinkYardLaw_39 mv_Ly_keep ⟨⟨Nat.le_refl _, Nat.le_refl _⟩, rfl, rfl⟩ ⟨Nat.le_refl _, Nat.le_refl _⟩ (Nat.le_of_ble_eq_true rfl) rfl d_Lw_keep_3 ?_
  refine Z_goto (pc := 6) hC 12 d_Lw_keep_6 rfl ?_
  refine Z_iconst (pc := 12) hC d_Lw_keep_12 ki_0 ?_
  exact Z_iretH (pc := 13) hC hE ⟨Nat.le_refl _, Nat.le_refl _⟩ d_Lw_keep_13 rfl ⟨a, f, rfl, trivial, rfl⟩
set_option maxHeartbeats 4000000 in
set_option maxRecDepth 100000 in
theorem ht_Lw_keep_0 (l : Launch) (D : va_G) (cI cZ cJ : ClassId) (a : Nat → Nat) (o : Nat) (f : Nat → Int64) (hN : NoTr l) {V : Sto} {p1 p2 r : Int32} {V' : Sto} (h : f_Ly_keep V p1 p2 = some (.inr 0, V')) : HM l D cI cZ cJ y_Lw_keep b_Lw_keep 4 hs_Lw_keep rmt_Lw_keep [.ref (a 0), .int p1, .int p2] (wsF cI cZ a V 0 shpC ++ [outC cJ o f]) 1 (HB cI cZ cJ a o V (fun _ => True)) := by
  refine HM_of (by decide) (Nat.le_of_ble_eq_true rfl) ?_
  intro C hl hDD hcI hcZ hC hE hXT hNC hJ htb
  subst hl hDD hcI hcZ
  show Z C 4 0 0 0 [(0, .ref (a 0)), (1, .int p1), (2, .int p2)] [] ([] ++ (wsF C.cI C.cZ a V 0 shpC ++ [outC cJ o f]))
  refine Z_aload_n (pc := 0) hC d_Lw_keep_0 rfl 0 rfl ?_
  refine Z_iload_n (pc := 1) hC d_Lw_keep_1 rfl 1 rfl ?_
  refine Z_iload_n (pc := 2) hC d_Lw_keep_2 rfl 2 rfl ?_
  refine Z_catch (P := []) (S := [outC cJ o f]) (pc := 3) hC hXT hNC (t_Ly_keep C.l C.D C.cI C.cZ a hN h) sc_0 cls_Ly ml_LinkYardLaw_39 mv_Ly_keep ⟨⟨Nat.le_refl _, Nat.le_refl _⟩, rfl, rfl⟩ ⟨Nat.le_refl _, Nat.le_refl _⟩ (Nat.le_of_ble_eq_true rfl) rfl d_Lw_keep_3 (h := 9) (by rw [htb]; exact Or.inl ⟨_, _, rfl, ⟨by decide, by decide⟩, by decide, rfl, cl_Lw_13, xw_0⟩) (fun q => ?_)
  refine Z_astore_n (pc := 9) hC (L' := [(3, .ref q), (0, .ref (a 0)), (1, .int p1), (2, .int p2)]) d_Lw_keep_9 rfl (by decide) rfl ?_
  refine Z_iconst (pc := 10) hC d_Lw_keep_10 ki_1 ?_
  exact Z_iretH (pc := 11) hC hE ⟨Nat.le_refl _, Nat.le_refl _⟩ d_Lw_keep_11 rfl ⟨a, f, rfl, trivial, rfl⟩
abbrev cs_Lw_keep : List (Nat × Int32) := [(0, 1)]
theorem h_Lw_keep (l : Launch) (D : va_G) (cI cZ cJ : ClassId) (a : Nat → Nat) (o : Nat) (f : Nat → Int64) (hN : NoTr l) {V : Sto} {p1 p2 k r : Int32} {V' : Sto} (h : HO cs_Lw_keep (f_Ly_keep V p1 p2) V k r V') : HX l D cI cZ cJ y_Lw_keep b_Lw_keep 4 hs_Lw_keep [.ref (a 0), .int p1, .int p2] (wsF cI cZ a V 0 shpC ++ [outC cJ o f]) k (HB cI cZ cJ a o V' (fun _ => True)) 0 := by
  rcases h with ⟨h, rfl⟩ | ⟨e, hm, h, rfl, hk⟩
  · exact ⟨_, ⟨Nat.le_of_ble_eq_true rfl, Nat.le_of_ble_eq_true rfl, Nat.zero_le _, Nat.zero_le _⟩, ha_Lw_keep l D cI cZ cJ a o f h⟩
  · rcases List.mem_cons.mp hm with hm | hm
    · cases hm
      exact ⟨_, ⟨Nat.le_of_ble_eq_true rfl, Nat.le_of_ble_eq_true rfl, Nat.le_refl _, Nat.le_add_right _ _⟩, ht_Lw_keep_0 l D cI cZ cJ a o f hN (r := r) h⟩
    · cases hm
set_option maxHeartbeats 4000000 in
set_option maxRecDepth 100000 in
theorem ha_Lw_link (l : Launch) (D : va_G) (cI cZ cJ : ClassId) (a : Nat → Nat) (o : Nat) (f : Nat → Int64) {V : Sto} {p1 r : Int32} {V' : Sto} (h : f_Ly_link V p1 = some (.inl r, V')) : HM l D cI cZ cJ y_Lw_link b_Lw_link 4 hs_Lw_link rm_Lw_link [.ref (a 0), .int p1, .ref o] (wsF cI cZ a V 0 shpC ++ [outC cJ o f]) 0 (HB cI cZ cJ a o V' (fun v => (0 : Int32) = 0 → v = r.toInt64)) := by
  refine HM_of (by decide) (Nat.le_of_ble_eq_true rfl) ?_
  intro C hl hDD hcI hcZ hC hE hXT hNC hJ htb
  subst hl hDD hcI hcZ
  show Z C 4 0 0 0 [(0, .ref (a 0)), (1, .int p1), (2, .ref o)] [] ([] ++ (wsF C.cI C.cZ a V 0 shpC ++ [outC cJ o f]))
  refine Z_aload_n (pc := 0) hC d_Lw_link_0 rfl 2 rfl ?_
  refine Z_iconst (pc := 1) hC d_Lw_link_1 ki_0 ?_
  refine Z_aload_n (pc := 2) hC d_Lw_link_2 rfl 0 rfl ?_
  refine Z_iload_n (pc := 3) hC d_Lw_link_3 rfl 1 rfl ?_
  refine Z_vi (P := []) (S := [outC cJ o f]) (pc := 4) hC (c_Ly_link C.l C.D C.cI C.cZ a h) sc_0 cls_Ly ml_LinkYardLaw_43 mv_Ly_link ⟨⟨Nat.le_refl _, Nat.le_refl _⟩, rfl, rfl⟩ ⟨Nat.le_refl _, Nat.le_refl _⟩ (Nat.le_of_ble_eq_true rfl) rfl d_Lw_link_4 ?_
  refine Z_i2l (pc := 7) hC d_Lw_link_7 ?_
  refine Z_last (pc := 8) (X := wsF C.cI C.cZ a V' 0 shpC) (f := f) hC hJ d_Lw_link_8 (fun f1 hf1 => ?_)
  refine Z_goto (pc := 9) hC 15 d_Lw_link_9 rfl ?_
  refine Z_iconst (pc := 15) hC d_Lw_link_15 ki_0 ?_
  exact Z_iretH (pc := 16) hC hE ⟨Nat.le_refl _, Nat.le_refl _⟩ d_Lw_link_16 rfl ⟨a, f1, rfl, fun _ => hf1, rfl⟩
set_option maxHeartbeats 4000000 in
set_option maxRecDepth 100000 in
theorem ht_Lw_link_0 (l : Launch) (D : va_G) (cI cZ cJ : ClassId) (a : Nat → Nat) (o : Nat) (f : Nat → Int64) (hN : NoTr l) {V : Sto} {p1 r : Int32} {V' : Sto} (h : f_Ly_link V p1 = some (.inr 0, V')) : HM l D cI cZ cJ y_Lw_link b_Lw_link 4 hs_Lw_link rmt_Lw_link [.ref (a 0), .int p1, .ref o] (wsF cI cZ a V 0 shpC ++ [outC cJ o f]) 1 (HB cI cZ cJ a o V (fun v => (1 : Int32) = 0 → v = r.toInt64)) := by
  refine HM_of (by decide) (Nat.le_of_ble_eq_true rfl) ?_
  intro C hl hDD hcI hcZ hC hE hXT hNC hJ htb
  subst hl hDD hcI hcZ
  show Z C 4 0 0 0 [(0, .ref (a 0)), (1, .int p1), (2, .ref o)] [] ([] ++ (wsF C.cI C.cZ a V 0 shpC ++ [outC cJ o f]))
  refine Z_aload_n (pc := 0) hC d_Lw_link_0 rfl 2 rfl ?_
  refine Z_iconst (pc := 1) hC d_Lw_link_1 ki_0 ?_
  refine Z_aload_n (pc := 2) hC d_Lw_link_2 rfl 0 rfl ?_
  refine Z_iload_n (pc := 3) hC d_Lw_link_3 rfl 1 rfl ?_
  refine Z_catch (P := []) (S := [outC cJ o f]) (pc := 4) hC hXT hNC (t_Ly_link C.l C.D C.cI C.cZ a hN h) sc_0 cls_Ly ml_LinkYardLaw_43 mv_Ly_link ⟨⟨Nat.le_refl _, Nat.le_refl _⟩, rfl, rfl⟩ ⟨Nat.le_refl _, Nat.le_refl _⟩ (Nat.le_of_ble_eq_true rfl) rfl d_Lw_link_4 (h := 12) (by rw [htb]; exact Or.inl ⟨_, _, rfl, ⟨by decide, by decide⟩, by decide, rfl, cl_Lw_13, xw_0⟩) (fun q => ?_)
  refine Z_astore_n (pc := 12) hC (L' := [(3, .ref q), (0, .ref (a 0)), (1, .int p1), (2, .ref o)]) d_Lw_link_12 rfl (by decide) rfl ?_
  refine Z_iconst (pc := 13) hC d_Lw_link_13 ki_1 ?_
  exact Z_iretH (pc := 14) hC hE ⟨Nat.le_refl _, Nat.le_refl _⟩ d_Lw_link_14 rfl ⟨a, f, rfl, fun q => absurd q (by decide), rfl⟩
abbrev cs_Lw_link : List (Nat × Int32) := [(0, 1)]
theorem h_Lw_link (l : Launch) (D : va_G) (cI cZ cJ : ClassId) (a : Nat → Nat) (o : Nat) (f : Nat → Int64) (hN : NoTr l) {V : Sto} {p1 k r : Int32} {V' : Sto} (h : HO cs_Lw_link (f_Ly_link V p1) V k r V') : HX l D cI cZ cJ y_Lw_link b_Lw_link 4 hs_Lw_link [.ref (a 0), .int p1, .ref o] (wsF cI cZ a V 0 shpC ++ [outC cJ o f]) k (HB cI cZ cJ a o V' (fun v => k = 0 → v = r.toInt64)) 0 := by
  rcases h with ⟨h, rfl⟩ | ⟨e, hm, h, rfl, hk⟩
  · exact ⟨_, ⟨Nat.le_of_ble_eq_true rfl, Nat.le_of_ble_eq_true rfl, Nat.zero_le _, Nat.zero_le _⟩, ha_Lw_link l D cI cZ cJ a o f h⟩
  · rcases List.mem_cons.mp hm with hm | hm
    · cases hm
      exact ⟨_, ⟨Nat.le_of_ble_eq_true rfl, Nat.le_of_ble_eq_true rfl, Nat.le_refl _, Nat.le_add_right _ _⟩, ht_Lw_link_0 l D cI cZ cJ a o f hN (r := r) h⟩
    · cases hm
set_option maxHeartbeats 4000000 in
set_option maxRecDepth 100000 in
theorem ha_Lw_fault (l : Launch) (D : va_G) (cI cZ cJ : ClassId) (a : Nat → Nat) (o : Nat) (f : Nat → Int64) {V : Sto} {p1 r : Int32} {V' : Sto} (h : f_Ly_fault V p1 = some (.inl r, V')) : HM l D cI cZ cJ y_Lw_fault b_Lw_fault 4 hs_Lw_fault rm_Lw_fault [.ref (a 0), .int p1, .ref o] (wsF cI cZ a V 0 shpC ++ [outC cJ o f]) 0 (HB cI cZ cJ a o V' (fun v => (0 : Int32) = 0 → v = r.toInt64)) := by
  refine HM_of (by decide) (Nat.le_of_ble_eq_true rfl) ?_
  intro C hl hDD hcI hcZ hC hE hXT hNC hJ htb
  subst hl hDD hcI hcZ
  show Z C 4 0 0 0 [(0, .ref (a 0)), (1, .int p1), (2, .ref o)] [] ([] ++ (wsF C.cI C.cZ a V 0 shpC ++ [outC cJ o f]))
  refine Z_aload_n (pc := 0) hC d_Lw_fault_0 rfl 2 rfl ?_
  refine Z_iconst (pc := 1) hC d_Lw_fault_1 ki_0 ?_
  refine Z_aload_n (pc := 2) hC d_Lw_fault_2 rfl 0 rfl ?_
  refine Z_iload_n (pc := 3) hC d_Lw_fault_3 rfl 1 rfl ?_
  refine Z_vi (P := []) (S := [outC cJ o f]) (pc := 4) hC (c_Ly_fault C.l C.D C.cI C.cZ a h) sc_0 cls_Ly ml_LinkYardLaw_46 mv_Ly_fault ⟨⟨Nat.le_refl _, Nat.le_refl _⟩, rfl, rfl⟩ ⟨Nat.le_refl _, Nat.le_refl _⟩ (Nat.le_of_ble_eq_true rfl) rfl d_Lw_fault_4 ?_
  refine Z_i2l (pc := 7) hC d_Lw_fault_7 ?_
  refine Z_last (pc := 8) (X := wsF C.cI C.cZ a V' 0 shpC) (f := f) hC hJ d_Lw_fault_8 (fun f1 hf1 => ?_)
  refine Z_goto (pc := 9) hC 15 d_Lw_fault_9 rfl ?_
  refine Z_iconst (pc := 15) hC d_Lw_fault_15 ki_0 ?_
  exact Z_iretH (pc := 16) hC hE ⟨Nat.le_refl _, Nat.le_refl _⟩ d_Lw_fault_16 rfl ⟨a, f1, rfl, fun _ => hf1, rfl⟩
set_option maxHeartbeats 4000000 in
set_option maxRecDepth 100000 in
theorem ht_Lw_fault_0 (l : Launch) (D : va_G) (cI cZ cJ : ClassId) (a : Nat → Nat) (o : Nat) (f : Nat → Int64) (hN : NoTr l) {V : Sto} {p1 r : Int32} {V' : Sto} (h : f_Ly_fault V p1 = some (.inr 0, V')) : HM l D cI cZ cJ y_Lw_fault b_Lw_fault 4 hs_Lw_fault rmt_Lw_fault [.ref (a 0), .int p1, .ref o] (wsF cI cZ a V 0 shpC ++ [outC cJ o f]) 1 (HB cI cZ cJ a o V (fun v => (1 : Int32) = 0 → v = r.toInt64)) := by
  refine HM_of (by decide) (Nat.le_of_ble_eq_true rfl) ?_
  intro C hl hDD hcI hcZ hC hE hXT hNC hJ htb
  subst hl hDD hcI hcZ
  show Z C 4 0 0 0 [(0, .ref (a 0)), (1, .int p1), (2, .ref o)] [] ([] ++ (wsF C.cI C.cZ a V 0 shpC ++ [outC cJ o f]))
  refine Z_aload_n (pc := 0) hC d_Lw_fault_0 rfl 2 rfl ?_
  refine Z_iconst (pc := 1) hC d_Lw_fault_1 ki_0 ?_
  refine Z_aload_n (pc := 2) hC d_Lw_fault_2 rfl 0 rfl ?_
  refine Z_iload_n (pc := 3) hC d_Lw_fault_3 rfl 1 rfl ?_
  refine Z_catch (P := []) (S := [outC cJ o f]) (pc := 4) hC hXT hNC (t_Ly_fault C.l C.D C.cI C.cZ a hN h) sc_0 cls_Ly ml_LinkYardLaw_46 mv_Ly_fault ⟨⟨Nat.le_refl _, Nat.le_refl _⟩, rfl, rfl⟩ ⟨Nat.le_refl _, Nat.le_refl _⟩ (Nat.le_of_ble_eq_true rfl) rfl d_Lw_fault_4 (h := 12) (by rw [htb]; exact Or.inl ⟨_, _, rfl, ⟨by decide, by decide⟩, by decide, rfl, cl_Lw_13, xw_0⟩) (fun q => ?_)
  refine Z_astore_n (pc := 12) hC (L' := [(3, .ref q), (0, .ref (a 0)), (1, .int p1), (2, .ref o)]) d_Lw_fault_12 rfl (by decide) rfl ?_
  refine Z_iconst (pc := 13) hC d_Lw_fault_13 ki_1 ?_
  exact Z_iretH (pc := 14) hC hE ⟨Nat.le_refl _, Nat.le_refl _⟩ d_Lw_fault_14 rfl ⟨a, f, rfl, fun q => absurd q (by decide), rfl⟩
abbrev cs_Lw_fault : List (Nat × Int32) := [(0, 1)]
theorem h_Lw_fault (l : Launch) (D : va_G) (cI cZ cJ : ClassId) (a : Nat → Nat) (o : Nat) (f : Nat → Int64) (hN : NoTr l) {V : Sto} {p1 k r : Int32} {V' : Sto} (h : HO cs_Lw_fault (f_Ly_fault V p1) V k r V') : HX l D cI cZ cJ y_Lw_fault b_Lw_fault 4 hs_Lw_fault [.ref (a 0), .int p1, .ref o] (wsF cI cZ a V 0 shpC ++ [outC cJ o f]) k (HB cI cZ cJ a o V' (fun v => k = 0 → v = r.toInt64)) 0 := by
  rcases h with ⟨h, rfl⟩ | ⟨e, hm, h, rfl, hk⟩
  · exact ⟨_, ⟨Nat.le_of_ble_eq_true rfl, Nat.le_of_ble_eq_true rfl, Nat.zero_le _, Nat.zero_le _⟩, ha_Lw_fault l D cI cZ cJ a o f h⟩
  · rcases List.mem_cons.mp hm with hm | hm
    · cases hm
      exact ⟨_, ⟨Nat.le_of_ble_eq_true rfl, Nat.le_of_ble_eq_true rfl, Nat.le_refl _, Nat.le_add_right _ _⟩, ht_Lw_fault_0 l D cI cZ cJ a o f hN (r := r) h⟩
    · cases hm
set_option maxHeartbeats 4000000 in
set_option maxRecDepth 100000 in
theorem ha_Lw_isIn (l : Launch) (D : va_G) (cI cZ cJ : ClassId) (a : Nat → Nat) (o : Nat) (f : Nat → Int64) {V : Sto} {p1 r : Int32} {V' : Sto} (h : f_Ly_isIn V p1 = some (.inl r, V')) : HM l D cI cZ cJ y_Lw_isIn b_Lw_isIn 4 hs_Lw_isIn rm_Lw_isIn [.ref (a 0), .int p1, .ref o] (wsF cI cZ a V 0 shpC ++ [outC cJ o f]) 0 (HB cI cZ cJ a o V' (fun v => (0 : Int32) = 0 → v = if r = 0 then 0 else 1)) := by
  refine HM_of (by decide) (Nat.le_of_ble_eq_true rfl) ?_
  intro C hl hDD hcI hcZ hC hE hXT hNC hJ htb
  subst hl hDD hcI hcZ
  show Z C 4 0 0 0 [(0, .ref (a 0)), (1, .int p1), (2, .ref o)] [] ([] ++ (wsF C.cI C.cZ a V 0 shpC ++ [outC cJ o f]))
  refine Z_aload_n (pc := 0) hC d_Lw_isIn_0 rfl 2 rfl ?_
  refine Z_iconst (pc := 1) hC d_Lw_isIn_1 ki_0 ?_
  refine Z_aload_n (pc := 2) hC d_Lw_isIn_2 rfl 0 rfl ?_
  refine Z_iload_n (pc := 3) hC d_Lw_isIn_3 rfl 1 rfl ?_
  refine Z_vi (P := []) (S := [outC cJ o f]) (pc := 4) hC (c_Ly_isIn C.l C.D C.cI C.cZ a h) sc_0 cls_Ly ml_LinkYardLaw_49 mv_Ly_isIn ⟨⟨Nat.le_refl _, Nat.le_refl _⟩, rfl, rfl⟩ ⟨Nat.le_refl _, Nat.le_refl _⟩ (Nat.le_of_ble_eq_true rfl) rfl d_Lw_isIn_4 ?_
  refine Z_if_eq (pc := 7) hC 14 d_Lw_isIn_7 rfl (fun hz => ?_) (fun hz => ?_)
  · refine Z_lconst (pc := 14) hC d_Lw_isIn_14 (v := 0) rfl ?_
    refine Z_last (pc := 15) (X := wsF C.cI C.cZ a V' 0 shpC) (f := f) hC hJ d_Lw_isIn_15 (fun f1 hf1 => ?_)
    refine Z_goto (pc := 16) hC 25 d_Lw_isIn_16 rfl ?_
    refine Z_iconst (pc := 25) hC d_Lw_isIn_25 ki_0 ?_
    exact Z_iretH (pc := 26) hC hE ⟨Nat.zero_le _, Nat.zero_le _⟩ d_Lw_isIn_26 rfl ⟨a, f1, rfl, fun _ => hf1.trans (if_pos hz).symm, rfl⟩
  · refine Z_lconst (pc := 10) hC d_Lw_isIn_10 (v := 1) rfl ?_
    refine Z_goto (pc := 11) hC 15 d_Lw_isIn_11 rfl ?_
    refine Z_last (pc := 15) (X := wsF C.cI C.cZ a V' 0 shpC) (f := f) hC hJ d_Lw_isIn_15 (fun f1 hf1 => ?_)
    refine Z_goto (pc := 16) hC 25 d_Lw_isIn_16 rfl ?_
    refine Z_iconst (pc := 25) hC d_Lw_isIn_25 ki_0 ?_
    exact Z_iretH (pc := 26) hC hE ⟨Nat.zero_le _, Nat.zero_le _⟩ d_Lw_isIn_26 rfl ⟨a, f1, rfl, fun _ => hf1.trans (if_neg hz).symm, rfl⟩
set_option maxHeartbeats 4000000 in
set_option maxRecDepth 100000 in
theorem ht_Lw_isIn_1 (l : Launch) (D : va_G) (cI cZ cJ : ClassId) (a : Nat → Nat) (o : Nat) (f : Nat → Int64) (hN : NoTr l) {V : Sto} {p1 r : Int32} {V' : Sto} (h : f_Ly_isIn V p1 = some (.inr 1, V')) : HM l D cI cZ cJ y_Lw_isIn b_Lw_isIn 4 hs_Lw_isIn rmt_Lw_isIn [.ref (a 0), .int p1, .ref o] (wsF cI cZ a V 0 shpC ++ [outC cJ o f]) 1 (HB cI cZ cJ a o V (fun v => (1 : Int32) = 0 → v = if r = 0 then 0 else 1)) := by
  refine HM_of (by decide) (Nat.le_of_ble_eq_true rfl) ?_
  intro C hl hDD hcI hcZ hC hE hXT hNC hJ htb
  subst hl hDD hcI hcZ
  show Z C 4 0 0 0 [(0, .ref (a 0)), (1, .int p1), (2, .ref o)] [] ([] ++ (wsF C.cI C.cZ a V 0 shpC ++ [outC cJ o f]))
  refine Z_aload_n (pc := 0) hC d_Lw_isIn_0 rfl 2 rfl ?_
  refine Z_iconst (pc := 1) hC d_Lw_isIn_1 ki_0 ?_
  refine Z_aload_n (pc := 2) hC d_Lw_isIn_2 rfl 0 rfl ?_
  refine Z_iload_n (pc := 3) hC d_Lw_isIn_3 rfl 1 rfl ?_
  refine Z_catch (P := []) (S := [outC cJ o f]) (pc := 4) hC hXT hNC (t_Ly_isIn C.l C.D C.cI C.cZ a hN h) sc_0 cls_Ly ml_LinkYardLaw_49 mv_Ly_isIn ⟨⟨Nat.le_refl _, Nat.le_refl _⟩, rfl, rfl⟩ ⟨Nat.le_refl _, Nat.le_refl _⟩ (Nat.le_of_ble_eq_true rfl) rfl d_Lw_isIn_4 (h := 19) (by rw [htb]; exact Or.inl ⟨_, _, rfl, ⟨by decide, by decide⟩, by decide, rfl, cl_Lw_53, xw_1⟩) (fun q => ?_)
  refine Z_astore_n (pc := 19) hC (L' := [(3, .ref q), (0, .ref (a 0)), (1, .int p1), (2, .ref o)]) d_Lw_isIn_19 rfl (by decide) rfl ?_
  refine Z_iconst (pc := 20) hC d_Lw_isIn_20 ki_1 ?_
  exact Z_iretH (pc := 21) hC hE ⟨Nat.le_refl _, Nat.le_refl _⟩ d_Lw_isIn_21 rfl ⟨a, f, rfl, fun q => absurd q (by decide), rfl⟩
set_option maxHeartbeats 4000000 in
set_option maxRecDepth 100000 in
theorem ht_Lw_isIn_0 (l : Launch) (D : va_G) (cI cZ cJ : ClassId) (a : Nat → Nat) (o : Nat) (f : Nat → Int64) (hN : NoTr l) {V : Sto} {p1 r : Int32} {V' : Sto} (h : f_Ly_isIn V p1 = some (.inr 0, V')) : HM l D cI cZ cJ y_Lw_isIn b_Lw_isIn 4 hs_Lw_isIn rmt_Lw_isIn [.ref (a 0), .int p1, .ref o] (wsF cI cZ a V 0 shpC ++ [outC cJ o f]) 2 (HB cI cZ cJ a o V (fun v => (2 : Int32) = 0 → v = if r = 0 then 0 else 1)) := by
  refine HM_of (by decide) (Nat.le_of_ble_eq_true rfl) ?_
  intro C hl hDD hcI hcZ hC hE hXT hNC hJ htb
  subst hl hDD hcI hcZ
  show Z C 4 0 0 0 [(0, .ref (a 0)), (1, .int p1), (2, .ref o)] [] ([] ++ (wsF C.cI C.cZ a V 0 shpC ++ [outC cJ o f]))
  refine Z_aload_n (pc := 0) hC d_Lw_isIn_0 rfl 2 rfl ?_
  refine Z_iconst (pc := 1) hC d_Lw_isIn_1 ki_0 ?_
  refine Z_aload_n (pc := 2) hC d_Lw_isIn_2 rfl 0 rfl ?_
  refine Z_iload_n (pc := 3) hC d_Lw_isIn_3 rfl 1 rfl ?_
  refine Z_catch (P := []) (S := [outC cJ o f]) (pc := 4) hC hXT hNC (t_Ly_isIn C.l C.D C.cI C.cZ a hN h) sc_0 cls_Ly ml_LinkYardLaw_49 mv_Ly_isIn ⟨⟨Nat.le_refl _, Nat.le_refl _⟩, rfl, rfl⟩ ⟨Nat.le_refl _, Nat.le_refl _⟩ (Nat.le_of_ble_eq_true rfl) rfl d_Lw_isIn_4 (h := 22) (by rw [htb]; exact Or.inr ⟨_, _, _, _, rfl, ⟨by decide, by decide⟩, by decide, cl_Lw_53, nc_1, ⟨by decide, by decide⟩, by decide, rfl, cl_Lw_13, xw_0⟩) (fun q => ?_)
  refine Z_astore_n (pc := 22) hC (L' := [(3, .ref q), (0, .ref (a 0)), (1, .int p1), (2, .ref o)]) d_Lw_isIn_22 rfl (by decide) rfl ?_
  refine Z_iconst (pc := 23) hC d_Lw_isIn_23 ki_2 ?_
  exact Z_iretH (pc := 24) hC hE ⟨Nat.le_refl _, Nat.le_refl _⟩ d_Lw_isIn_24 rfl ⟨a, f, rfl, fun q => absurd q (by decide), rfl⟩
abbrev cs_Lw_isIn : List (Nat × Int32) := [(1, 1), (0, 2)]
theorem h_Lw_isIn (l : Launch) (D : va_G) (cI cZ cJ : ClassId) (a : Nat → Nat) (o : Nat) (f : Nat → Int64) (hN : NoTr l) {V : Sto} {p1 k r : Int32} {V' : Sto} (h : HO cs_Lw_isIn (f_Ly_isIn V p1) V k r V') : HX l D cI cZ cJ y_Lw_isIn b_Lw_isIn 4 hs_Lw_isIn [.ref (a 0), .int p1, .ref o] (wsF cI cZ a V 0 shpC ++ [outC cJ o f]) k (HB cI cZ cJ a o V' (fun v => k = 0 → v = if r = 0 then 0 else 1)) 0 := by
  rcases h with ⟨h, rfl⟩ | ⟨e, hm, h, rfl, hk⟩
  · exact ⟨_, ⟨Nat.le_of_ble_eq_true rfl, Nat.le_of_ble_eq_true rfl, Nat.zero_le _, Nat.zero_le _⟩, ha_Lw_isIn l D cI cZ cJ a o f h⟩
  · rcases List.mem_cons.mp hm with hm | hm
    · cases hm
      exact ⟨_, ⟨Nat.le_of_ble_eq_true rfl, Nat.le_of_ble_eq_true rfl, Nat.le_refl _, Nat.le_add_right _ _⟩, ht_Lw_isIn_1 l D cI cZ cJ a o f hN (r := r) h⟩
    · rcases List.mem_cons.mp hm with hm | hm
      · cases hm
        exact ⟨_, ⟨Nat.le_of_ble_eq_true rfl, Nat.le_of_ble_eq_true rfl, Nat.le_refl _, Nat.le_add_right _ _⟩, ht_Lw_isIn_0 l D cI cZ cJ a o f hN (r := r) h⟩
      · cases hm
set_option maxHeartbeats 4000000 in
set_option maxRecDepth 100000 in
theorem ha_Lw_address (l : Launch) (D : va_G) (cI cZ cJ : ClassId) (a : Nat → Nat) (o : Nat) (f : Nat → Int64) {V : Sto} {p1 r : Int32} {V' : Sto} (h : f_Ly_address V p1 = some (.inl r, V')) : HM l D cI cZ cJ y_Lw_address b_Lw_address 4 hs_Lw_address rm_Lw_address [.ref (a 0), .int p1, .ref o] (wsF cI cZ a V 0 shpC ++ [outC cJ o f]) 0 (HB cI cZ cJ a o V' (fun v => (0 : Int32) = 0 → v = r.toInt64)) := by
  refine HM_of (by decide) (Nat.le_of_ble_eq_true rfl) ?_
  intro C hl hDD hcI hcZ hC hE hXT hNC hJ htb
  subst hl hDD hcI hcZ
  show Z C 4 0 0 0 [(0, .ref (a 0)), (1, .int p1), (2, .ref o)] [] ([] ++ (wsF C.cI C.cZ a V 0 shpC ++ [outC cJ o f]))
  refine Z_aload_n (pc := 0) hC d_Lw_address_0 rfl 2 rfl ?_
  refine Z_iconst (pc := 1) hC d_Lw_address_1 ki_0 ?_
  refine Z_aload_n (pc := 2) hC d_Lw_address_2 rfl 0 rfl ?_
  refine Z_iload_n (pc := 3) hC d_Lw_address_3 rfl 1 rfl ?_
  refine Z_vi (P := []) (S := [outC cJ o f]) (pc := 4) hC (c_Ly_address C.l C.D C.cI C.cZ a h) sc_0 cls_Ly ml_LinkYardLaw_55 mv_Ly_address ⟨⟨Nat.le_refl _, Nat.le_refl _⟩, rfl, rfl⟩ ⟨Nat.le_refl _, Nat.le_refl _⟩ (Nat.le_of_ble_eq_true rfl) rfl d_Lw_address_4 ?_
  refine Z_i2l (pc := 7) hC d_Lw_address_7 ?_
  refine Z_last (pc := 8) (X := wsF C.cI C.cZ a V' 0 shpC) (f := f) hC hJ d_Lw_address_8 (fun f1 hf1 => ?_)
  refine Z_goto (pc := 9) hC 18 d_Lw_address_9 rfl ?_
  refine Z_iconst (pc := 18) hC d_Lw_address_18 ki_0 ?_
  exact Z_iretH (pc := 19) hC hE ⟨Nat.le_refl _, Nat.le_refl _⟩ d_Lw_address_19 rfl ⟨a, f1, rfl, fun _ => hf1, rfl⟩
set_option maxHeartbeats 4000000 in
set_option maxRecDepth 100000 in
theorem ht_Lw_address_1 (l : Launch) (D : va_G) (cI cZ cJ : ClassId) (a : Nat → Nat) (o : Nat) (f : Nat → Int64) (hN : NoTr l) {V : Sto} {p1 r : Int32} {V' : Sto} (h : f_Ly_address V p1 = some (.inr 1, V')) : HM l D cI cZ cJ y_Lw_address b_Lw_address 4 hs_Lw_address rmt_Lw_address [.ref (a 0), .int p1, .ref o] (wsF cI cZ a V 0 shpC ++ [outC cJ o f]) 1 (HB cI cZ cJ a o V (fun v => (1 : Int32) = 0 → v = r.toInt64)) := by
  refine HM_of (by decide) (Nat.le_of_ble_eq_true rfl) ?_
  intro C hl hDD hcI hcZ hC hE hXT hNC hJ htb
  subst hl hDD hcI hcZ
  show Z C 4 0 0 0 [(0, .ref (a 0)), (1, .int p1), (2, .ref o)] [] ([] ++ (wsF C.cI C.cZ a V 0 shpC ++ [outC cJ o f]))
  refine Z_aload_n (pc := 0) hC d_Lw_address_0 rfl 2 rfl ?_
  refine Z_iconst (pc := 1) hC d_Lw_address_1 ki_0 ?_
  refine Z_aload_n (pc := 2) hC d_Lw_address_2 rfl 0 rfl ?_
  refine Z_iload_n (pc := 3) hC d_Lw_address_3 rfl 1 rfl ?_
  refine Z_catch (P := []) (S := [outC cJ o f]) (pc := 4) hC hXT hNC (t_Ly_address C.l C.D C.cI C.cZ a hN h) sc_0 cls_Ly ml_LinkYardLaw_55 mv_Ly_address ⟨⟨Nat.le_refl _, Nat.le_refl _⟩, rfl, rfl⟩ ⟨Nat.le_refl _, Nat.le_refl _⟩ (Nat.le_of_ble_eq_true rfl) rfl d_Lw_address_4 (h := 12) (by rw [htb]; exact Or.inl ⟨_, _, rfl, ⟨by decide, by decide⟩, by decide, rfl, cl_Lw_53, xw_1⟩) (fun q => ?_)
  refine Z_astore_n (pc := 12) hC (L' := [(3, .ref q), (0, .ref (a 0)), (1, .int p1), (2, .ref o)]) d_Lw_address_12 rfl (by decide) rfl ?_
  refine Z_iconst (pc := 13) hC d_Lw_address_13 ki_1 ?_
  exact Z_iretH (pc := 14) hC hE ⟨Nat.le_refl _, Nat.le_refl _⟩ d_Lw_address_14 rfl ⟨a, f, rfl, fun q => absurd q (by decide), rfl⟩
set_option maxHeartbeats 4000000 in
set_option maxRecDepth 100000 in
theorem ht_Lw_address_0 (l : Launch) (D : va_G) (cI cZ cJ : ClassId) (a : Nat → Nat) (o : Nat) (f : Nat → Int64) (hN : NoTr l) {V : Sto} {p1 r : Int32} {V' : Sto} (h : f_Ly_address V p1 = some (.inr 0, V')) : HM l D cI cZ cJ y_Lw_address b_Lw_address 4 hs_Lw_address rmt_Lw_address [.ref (a 0), .int p1, .ref o] (wsF cI cZ a V 0 shpC ++ [outC cJ o f]) 2 (HB cI cZ cJ a o V (fun v => (2 : Int32) = 0 → v = r.toInt64)) := by
  refine HM_of (by decide) (Nat.le_of_ble_eq_true rfl) ?_
  intro C hl hDD hcI hcZ hC hE hXT hNC hJ htb
  subst hl hDD hcI hcZ
  show Z C 4 0 0 0 [(0, .ref (a 0)), (1, .int p1), (2, .ref o)] [] ([] ++ (wsF C.cI C.cZ a V 0 shpC ++ [outC cJ o f]))
  refine Z_aload_n (pc := 0) hC d_Lw_address_0 rfl 2 rfl ?_
  refine Z_iconst (pc := 1) hC d_Lw_address_1 ki_0 ?_
  refine Z_aload_n (pc := 2) hC d_Lw_address_2 rfl 0 rfl ?_
  refine Z_iload_n (pc := 3) hC d_Lw_address_3 rfl 1 rfl ?_
  refine Z_catch (P := []) (S := [outC cJ o f]) (pc := 4) hC hXT hNC (t_Ly_address C.l C.D C.cI C.cZ a hN h) sc_0 cls_Ly ml_LinkYardLaw_55 mv_Ly_address ⟨⟨Nat.le_refl _, Nat.le_refl _⟩, rfl, rfl⟩ ⟨Nat.le_refl _, Nat.le_refl _⟩ (Nat.le_of_ble_eq_true rfl) rfl d_Lw_address_4 (h := 15) (by rw [htb]; exact Or.inr ⟨_, _, _, _, rfl, ⟨by decide, by decide⟩, by decide, cl_Lw_53, nc_1, ⟨by decide, by decide⟩, by decide, rfl, cl_Lw_13, xw_0⟩) (fun q => ?_)
  refine Z_astore_n (pc := 15) hC (L' := [(3, .ref q), (0, .ref (a 0)), (1, .int p1), (2, .ref o)]) d_Lw_address_15 rfl (by decide) rfl ?_
  refine Z_iconst (pc := 16) hC d_Lw_address_16 ki_2 ?_
  exact Z_iretH (pc := 17) hC hE ⟨Nat.le_refl _, Nat.le_refl _⟩ d_Lw_address_17 rfl ⟨a, f, rfl, fun q => absurd q (by decide), rfl⟩
abbrev cs_Lw_address : List (Nat × Int32) := [(1, 1), (0, 2)]
theorem h_Lw_address (l : Launch) (D : va_G) (cI cZ cJ : ClassId) (a : Nat → Nat) (o : Nat) (f : Nat → Int64) (hN : NoTr l) {V : Sto} {p1 k r : Int32} {V' : Sto} (h : HO cs_Lw_address (f_Ly_address V p1) V k r V') : HX l D cI cZ cJ y_Lw_address b_Lw_address 4 hs_Lw_address [.ref (a 0), .int p1, .ref o] (wsF cI cZ a V 0 shpC ++ [outC cJ o f]) k (HB cI cZ cJ a o V' (fun v => k = 0 → v = r.toInt64)) 0 := by
  rcases h with ⟨h, rfl⟩ | ⟨e, hm, h, rfl, hk⟩
  · exact ⟨_, ⟨Nat.le_of_ble_eq_true rfl, Nat.le_of_ble_eq_true rfl, Nat.zero_le _, Nat.zero_le _⟩, ha_Lw_address l D cI cZ cJ a o f h⟩
  · rcases List.mem_cons.mp hm with hm | hm
    · cases hm
      exact ⟨_, ⟨Nat.le_of_ble_eq_true rfl, Nat.le_of_ble_eq_true rfl, Nat.le_refl _, Nat.le_add_right _ _⟩, ht_Lw_address_1 l D cI cZ cJ a o f hN (r := r) h⟩
    · rcases List.mem_cons.mp hm with hm | hm
      · cases hm
        exact ⟨_, ⟨Nat.le_of_ble_eq_true rfl, Nat.le_of_ble_eq_true rfl, Nat.le_refl _, Nat.le_add_right _ _⟩, ht_Lw_address_0 l D cI cZ cJ a o f hN (r := r) h⟩
      · cases hm
set_option maxHeartbeats 4000000 in
set_option maxRecDepth 100000 in
theorem ha_Lw_like (l : Launch) (D : va_G) (cI cZ cJ : ClassId) (a : Nat → Nat) (o : Nat) (f : Nat → Int64) {V : Sto} {p1 r : Int32} {V' : Sto} (h : f_Ly_like V p1 = some (.inl r, V')) : HM l D cI cZ cJ y_Lw_like b_Lw_like 4 hs_Lw_like rm_Lw_like [.ref (a 0), .int p1, .ref o] (wsF cI cZ a V 0 shpC ++ [outC cJ o f]) 0 (HB cI cZ cJ a o V' (fun v => (0 : Int32) = 0 → v = r.toInt64)) := by
  refine HM_of (by decide) (Nat.le_of_ble_eq_true rfl) ?_
  intro C hl hDD hcI hcZ hC hE hXT hNC hJ htb
  subst hl hDD hcI hcZ
  show Z C 4 0 0 0 [(0, .ref (a 0)), (1, .int p1), (2, .ref o)] [] ([] ++ (wsF C.cI C.cZ a V 0 shpC ++ [outC cJ o f]))
  refine Z_aload_n (pc := 0) hC d_Lw_like_0 rfl 2 rfl ?_
  refine Z_iconst (pc := 1) hC d_Lw_like_1 ki_0 ?_
  refine Z_aload_n (pc := 2) hC d_Lw_like_2 rfl 0 rfl ?_
  refine Z_iload_n (pc := 3) hC d_Lw_like_3 rfl 1 rfl ?_
  refine Z_vi (P := []) (S := [outC cJ o f]) (pc := 4) hC (c_Ly_like C.l C.D C.cI C.cZ a h) sc_0 cls_Ly ml_LinkYardLaw_58 mv_Ly_like ⟨⟨Nat.le_refl _, Nat.le_refl _⟩, rfl, rfl⟩ ⟨Nat.le_refl _, Nat.le_refl _⟩ (Nat.le_of_ble_eq_true rfl) rfl d_Lw_like_4 ?_
  refine Z_i2l (pc := 7) hC d_Lw_like_7 ?_
  refine Z_last (pc := 8) (X := wsF C.cI C.cZ a V' 0 shpC) (f := f) hC hJ d_Lw_like_8 (fun f1 hf1 => ?_)
  refine Z_goto (pc := 9) hC 18 d_Lw_like_9 rfl ?_
  refine Z_iconst (pc := 18) hC d_Lw_like_18 ki_0 ?_
  exact Z_iretH (pc := 19) hC hE ⟨Nat.le_refl _, Nat.le_refl _⟩ d_Lw_like_19 rfl ⟨a, f1, rfl, fun _ => hf1, rfl⟩
set_option maxHeartbeats 4000000 in
set_option maxRecDepth 100000 in
theorem ht_Lw_like_1 (l : Launch) (D : va_G) (cI cZ cJ : ClassId) (a : Nat → Nat) (o : Nat) (f : Nat → Int64) (hN : NoTr l) {V : Sto} {p1 r : Int32} {V' : Sto} (h : f_Ly_like V p1 = some (.inr 1, V')) : HM l D cI cZ cJ y_Lw_like b_Lw_like 4 hs_Lw_like rmt_Lw_like [.ref (a 0), .int p1, .ref o] (wsF cI cZ a V 0 shpC ++ [outC cJ o f]) 1 (HB cI cZ cJ a o V (fun v => (1 : Int32) = 0 → v = r.toInt64)) := by
  refine HM_of (by decide) (Nat.le_of_ble_eq_true rfl) ?_
  intro C hl hDD hcI hcZ hC hE hXT hNC hJ htb
  subst hl hDD hcI hcZ
  show Z C 4 0 0 0 [(0, .ref (a 0)), (1, .int p1), (2, .ref o)] [] ([] ++ (wsF C.cI C.cZ a V 0 shpC ++ [outC cJ o f]))
  refine Z_aload_n (pc := 0) hC d_Lw_like_0 rfl 2 rfl ?_
  refine Z_iconst (pc := 1) hC d_Lw_like_1 ki_0 ?_
  refine Z_aload_n (pc := 2) hC d_Lw_like_2 rfl 0 rfl ?_
  refine Z_iload_n (pc := 3) hC d_Lw_like_3 rfl 1 rfl ?_
  refine Z_catch (P := []) (S := [outC cJ o f]) (pc := 4) hC hXT hNC (t_Ly_like C.l C.D C.cI C.cZ a hN h) sc_0 cls_Ly ml_LinkYardLaw_58 mv_Ly_like ⟨⟨Nat.le_refl _, Nat.le_refl _⟩, rfl, rfl⟩ ⟨Nat.le_refl _, Nat.le_refl _⟩ (Nat.le_of_ble_eq_true rfl) rfl d_Lw_like_4 (h := 12) (by rw [htb]; exact Or.inl ⟨_, _, rfl, ⟨by decide, by decide⟩, by decide, rfl, cl_Lw_53, xw_1⟩) (fun q => ?_)
  refine Z_astore_n (pc := 12) hC (L' := [(3, .ref q), (0, .ref (a 0)), (1, .int p1), (2, .ref o)]) d_Lw_like_12 rfl (by decide) rfl ?_
  refine Z_iconst (pc := 13) hC d_Lw_like_13 ki_1 ?_
  exact Z_iretH (pc := 14) hC hE ⟨Nat.le_refl _, Nat.le_refl _⟩ d_Lw_like_14 rfl ⟨a, f, rfl, fun q => absurd q (by decide), rfl⟩
set_option maxHeartbeats 4000000 in
set_option maxRecDepth 100000 in
theorem ht_Lw_like_0 (l : Launch) (D : va_G) (cI cZ cJ : ClassId) (a : Nat → Nat) (o : Nat) (f : Nat → Int64) (hN : NoTr l) {V : Sto} {p1 r : Int32} {V' : Sto} (h : f_Ly_like V p1 = some (.inr 0, V')) : HM l D cI cZ cJ y_Lw_like b_Lw_like 4 hs_Lw_like rmt_Lw_like [.ref (a 0), .int p1, .ref o] (wsF cI cZ a V 0 shpC ++ [outC cJ o f]) 2 (HB cI cZ cJ a o V (fun v => (2 : Int32) = 0 → v = r.toInt64)) := by
  refine HM_of (by decide) (Nat.le_of_ble_eq_true rfl) ?_
  intro C hl hDD hcI hcZ hC hE hXT hNC hJ htb
  subst hl hDD hcI hcZ
  show Z C 4 0 0 0 [(0, .ref (a 0)), (1, .int p1), (2, .ref o)] [] ([] ++ (wsF C.cI C.cZ a V 0 shpC ++ [outC cJ o f]))
  refine Z_aload_n (pc := 0) hC d_Lw_like_0 rfl 2 rfl ?_
  refine Z_iconst (pc := 1) hC d_Lw_like_1 ki_0 ?_
  refine Z_aload_n (pc := 2) hC d_Lw_like_2 rfl 0 rfl ?_
  refine Z_iload_n (pc := 3) hC d_Lw_like_3 rfl 1 rfl ?_
  refine Z_catch (P := []) (S := [outC cJ o f]) (pc := 4) hC hXT hNC (t_Ly_like C.l C.D C.cI C.cZ a hN h) sc_0 cls_Ly ml_LinkYardLaw_58 mv_Ly_like ⟨⟨Nat.le_refl _, Nat.le_refl _⟩, rfl, rfl⟩ ⟨Nat.le_refl _, Nat.le_refl _⟩ (Nat.le_of_ble_eq_true rfl) rfl d_Lw_like_4 (h := 15) (by rw [htb]; exact Or.inr ⟨_, _, _, _, rfl, ⟨by decide, by decide⟩, by decide, cl_Lw_53, nc_1, ⟨by decide, by decide⟩, by decide, rfl, cl_Lw_13, xw_0⟩) (fun q => ?_)
  refine Z_astore_n (pc := 15) hC (L' := [(3, .ref q), (0, .ref (a 0)), (1, .int p1), (2, .ref o)]) d_Lw_like_15 rfl (by decide) rfl ?_
  refine Z_iconst (pc := 16) hC d_Lw_like_16 ki_2 ?_
  exact Z_iretH (pc := 17) hC hE ⟨Nat.le_refl _, Nat.le_refl _⟩ d_Lw_like_17 rfl ⟨a, f, rfl, fun q => absurd q (by decide), rfl⟩
abbrev cs_Lw_like : List (Nat × Int32) := [(1, 1), (0, 2)]
theorem h_Lw_like (l : Launch) (D : va_G) (cI cZ cJ : ClassId) (a : Nat → Nat) (o : Nat) (f : Nat → Int64) (hN : NoTr l) {V : Sto} {p1 k r : Int32} {V' : Sto} (h : HO cs_Lw_like (f_Ly_like V p1) V k r V') : HX l D cI cZ cJ y_Lw_like b_Lw_like 4 hs_Lw_like [.ref (a 0), .int p1, .ref o] (wsF cI cZ a V 0 shpC ++ [outC cJ o f]) k (HB cI cZ cJ a o V' (fun v => k = 0 → v = r.toInt64)) 0 := by
  rcases h with ⟨h, rfl⟩ | ⟨e, hm, h, rfl, hk⟩
  · exact ⟨_, ⟨Nat.le_of_ble_eq_true rfl, Nat.le_of_ble_eq_true rfl, Nat.zero_le _, Nat.zero_le _⟩, ha_Lw_like l D cI cZ cJ a o f h⟩
  · rcases List.mem_cons.mp hm with hm | hm
    · cases hm
      exact ⟨_, ⟨Nat.le_of_ble_eq_true rfl, Nat.le_of_ble_eq_true rfl, Nat.le_refl _, Nat.le_add_right _ _⟩, ht_Lw_like_1 l D cI cZ cJ a o f hN (r := r) h⟩
    · rcases List.mem_cons.mp hm with hm | hm
      · cases hm
        exact ⟨_, ⟨Nat.le_of_ble_eq_true rfl, Nat.le_of_ble_eq_true rfl, Nat.le_refl _, Nat.le_add_right _ _⟩, ht_Lw_like_0 l D cI cZ cJ a o f hN (r := r) h⟩
      · cases hm
set_option maxHeartbeats 4000000 in
set_option maxRecDepth 100000 in
theorem ha_Lw_means (l : Launch) (D : va_G) (cI cZ cJ : ClassId) (a : Nat → Nat) (o : Nat) (f : Nat → Int64) {V : Sto} {p1 p2 r : Int32} {V' : Sto} (h : f_Ly_means V p1 p2 = some (.inl r, V')) : HM l D cI cZ cJ y_Lw_means b_Lw_means 5 hs_Lw_means rm_Lw_means [.ref (a 0), .int p1, .int p2, .ref o] (wsF cI cZ a V 0 shpC ++ [outC cJ o f]) 0 (HB cI cZ cJ a o V' (fun v => (0 : Int32) = 0 → v = r.toInt64)) := by
  refine HM_of (by decide) (Nat.le_of_ble_eq_true rfl) ?_
  intro C hl hDD hcI hcZ hC hE hXT hNC hJ htb
  subst hl hDD hcI hcZ
  show Z C 5 0 0 0 [(0, .ref (a 0)), (1, .int p1), (2, .int p2), (3, .ref o)] [] ([] ++ (wsF C.cI C.cZ a V 0 shpC ++ [outC cJ o f]))
  refine Z_aload_n (pc := 0) hC d_Lw_means_0 rfl 3 rfl ?_
  refine Z_iconst (pc := 1) hC d_Lw_means_1 ki_0 ?_
  refine Z_aload_n (pc := 2) hC d_Lw_means_2 rfl 0 rfl ?_
  refine Z_iload_n (pc := 3) hC d_Lw_means_3 rfl 1 rfl ?_
  refine Z_iload_n (pc := 4) hC d_Lw_means_4 rfl 2 rfl ?_
  refine Z_vi (P := []) (S := [outC cJ o f]) (pc := 5) hC (c_Ly_means C.l C.D C.cI C.cZ a h) sc_0 cls_Ly ml_LinkYardLaw_61 mv_Ly_means ⟨⟨Nat.le_refl _, Nat.le_refl _⟩, rfl, rfl⟩ ⟨Nat.le_refl _, Nat.le_refl _⟩ (Nat.le_of_ble_eq_true rfl) rfl d_Lw_means_5 ?_
  refine Z_i2l (pc := 8) hC d_Lw_means_8 ?_
  refine Z_last (pc := 9) (X := wsF C.cI C.cZ a V' 0 shpC) (f := f) hC hJ d_Lw_means_9 (fun f1 hf1 => ?_)
  refine Z_goto (pc := 10) hC 21 d_Lw_means_10 rfl ?_
  refine Z_iconst (pc := 21) hC d_Lw_means_21 ki_0 ?_
  exact Z_iretH (pc := 22) hC hE ⟨Nat.le_refl _, Nat.le_refl _⟩ d_Lw_means_22 rfl ⟨a, f1, rfl, fun _ => hf1, rfl⟩
set_option maxHeartbeats 4000000 in
set_option maxRecDepth 100000 in
theorem ht_Lw_means_1 (l : Launch) (D : va_G) (cI cZ cJ : ClassId) (a : Nat → Nat) (o : Nat) (f : Nat → Int64) (hN : NoTr l) {V : Sto} {p1 p2 r : Int32} {V' : Sto} (h : f_Ly_means V p1 p2 = some (.inr 1, V')) : HM l D cI cZ cJ y_Lw_means b_Lw_means 5 hs_Lw_means rmt_Lw_means [.ref (a 0), .int p1, .int p2, .ref o] (wsF cI cZ a V 0 shpC ++ [outC cJ o f]) 1 (HB cI cZ cJ a o V (fun v => (1 : Int32) = 0 → v = r.toInt64)) := by
  refine HM_of (by decide) (Nat.le_of_ble_eq_true rfl) ?_
  intro C hl hDD hcI hcZ hC hE hXT hNC hJ htb
  subst hl hDD hcI hcZ
  show Z C 5 0 0 0 [(0, .ref (a 0)), (1, .int p1), (2, .int p2), (3, .ref o)] [] ([] ++ (wsF C.cI C.cZ a V 0 shpC ++ [outC cJ o f]))
  refine Z_aload_n (pc := 0) hC d_Lw_means_0 rfl 3 rfl ?_
  refine Z_iconst (pc := 1) hC d_Lw_means_1 ki_0 ?_
  refine Z_aload_n (pc := 2) hC d_Lw_means_2 rfl 0 rfl ?_
  refine Z_iload_n (pc := 3) hC d_Lw_means_3 rfl 1 rfl ?_
  refine Z_iload_n (pc := 4) hC d_Lw_means_4 rfl 2 rfl ?_
  refine Z_catch (P := []) (S := [outC cJ o f]) (pc := 5) hC hXT hNC (t_Ly_means C.l C.D C.cI C.cZ a hN h) sc_0 cls_Ly ml_LinkYardLaw_61 mv_Ly_means ⟨⟨Nat.le_refl _, Nat.le_refl _⟩, rfl, rfl⟩ ⟨Nat.le_refl _, Nat.le_refl _⟩ (Nat.le_of_ble_eq_true rfl) rfl d_Lw_means_5 (h := 13) (by rw [htb]; exact Or.inl ⟨_, _, rfl, ⟨by decide, by decide⟩, by decide, rfl, cl_Lw_53, xw_1⟩) (fun q => ?_)
  refine Z_astore (pc := 13) hC (L' := [(4, .ref q), (0, .ref (a 0)), (1, .int p1), (2, .int p2), (3, .ref o)]) d_Lw_means_13 (by decide) rfl ?_
  refine Z_iconst (pc := 15) hC d_Lw_means_15 ki_1 ?_
  exact Z_iretH (pc := 16) hC hE ⟨Nat.le_refl _, Nat.le_refl _⟩ d_Lw_means_16 rfl ⟨a, f, rfl, fun q => absurd q (by decide), rfl⟩
set_option maxHeartbeats 4000000 in
set_option maxRecDepth 100000 in
theorem ht_Lw_means_0 (l : Launch) (D : va_G) (cI cZ cJ : ClassId) (a : Nat → Nat) (o : Nat) (f : Nat → Int64) (hN : NoTr l) {V : Sto} {p1 p2 r : Int32} {V' : Sto} (h : f_Ly_means V p1 p2 = some (.inr 0, V')) : HM l D cI cZ cJ y_Lw_means b_Lw_means 5 hs_Lw_means rmt_Lw_means [.ref (a 0), .int p1, .int p2, .ref o] (wsF cI cZ a V 0 shpC ++ [outC cJ o f]) 2 (HB cI cZ cJ a o V (fun v => (2 : Int32) = 0 → v = r.toInt64)) := by
  refine HM_of (by decide) (Nat.le_of_ble_eq_true rfl) ?_
  intro C hl hDD hcI hcZ hC hE hXT hNC hJ htb
  subst hl hDD hcI hcZ
  show Z C 5 0 0 0 [(0, .ref (a 0)), (1, .int p1), (2, .int p2), (3, .ref o)] [] ([] ++ (wsF C.cI C.cZ a V 0 shpC ++ [outC cJ o f]))
  refine Z_aload_n (pc := 0) hC d_Lw_means_0 rfl 3 rfl ?_
  refine Z_iconst (pc := 1) hC d_Lw_means_1 ki_0 ?_
  refine Z_aload_n (pc := 2) hC d_Lw_means_2 rfl 0 rfl ?_
  refine Z_iload_n (pc := 3) hC d_Lw_means_3 rfl 1 rfl ?_
  refine Z_iload_n (pc := 4) hC d_Lw_means_4 rfl 2 rfl ?_
  refine Z_catch (P := []) (S := [outC cJ o f]) (pc := 5) hC hXT hNC (t_Ly_means C.l C.D C.cI C.cZ a hN h) sc_0 cls_Ly ml_LinkYardLaw_61 mv_Ly_means ⟨⟨Nat.le_refl _, Nat.le_refl _⟩, rfl, rfl⟩ ⟨Nat.le_refl _, Nat.le_refl _⟩ (Nat.le_of_ble_eq_true rfl) rfl d_Lw_means_5 (h := 17) (by rw [htb]; exact Or.inr ⟨_, _, _, _, rfl, ⟨by decide, by decide⟩, by decide, cl_Lw_53, nc_1, ⟨by decide, by decide⟩, by decide, rfl, cl_Lw_13, xw_0⟩) (fun q => ?_)
  refine Z_astore (pc := 17) hC (L' := [(4, .ref q), (0, .ref (a 0)), (1, .int p1), (2, .int p2), (3, .ref o)]) d_Lw_means_17 (by decide) rfl ?_
  refine Z_iconst (pc := 19) hC d_Lw_means_19 ki_2 ?_
  exact Z_iretH (pc := 20) hC hE ⟨Nat.le_refl _, Nat.le_refl _⟩ d_Lw_means_20 rfl ⟨a, f, rfl, fun q => absurd q (by decide), rfl⟩
abbrev cs_Lw_means : List (Nat × Int32) := [(1, 1), (0, 2)]
theorem h_Lw_means (l : Launch) (D : va_G) (cI cZ cJ : ClassId) (a : Nat → Nat) (o : Nat) (f : Nat → Int64) (hN : NoTr l) {V : Sto} {p1 p2 k r : Int32} {V' : Sto} (h : HO cs_Lw_means (f_Ly_means V p1 p2) V k r V') : HX l D cI cZ cJ y_Lw_means b_Lw_means 5 hs_Lw_means [.ref (a 0), .int p1, .int p2, .ref o] (wsF cI cZ a V 0 shpC ++ [outC cJ o f]) k (HB cI cZ cJ a o V' (fun v => k = 0 → v = r.toInt64)) 0 := by
  rcases h with ⟨h, rfl⟩ | ⟨e, hm, h, rfl, hk⟩
  · exact ⟨_, ⟨Nat.le_of_ble_eq_true rfl, Nat.le_of_ble_eq_true rfl, Nat.zero_le _, Nat.zero_le _⟩, ha_Lw_means l D cI cZ cJ a o f h⟩
  · rcases List.mem_cons.mp hm with hm | hm
    · cases hm
      exact ⟨_, ⟨Nat.le_of_ble_eq_true rfl, Nat.le_of_ble_eq_true rfl, Nat.le_refl _, Nat.le_add_right _ _⟩, ht_Lw_means_1 l D cI cZ cJ a o f hN (r := r) h⟩
    · rcases List.mem_cons.mp hm with hm | hm
      · cases hm
        exact ⟨_, ⟨Nat.le_of_ble_eq_true rfl, Nat.le_of_ble_eq_true rfl, Nat.le_refl _, Nat.le_add_right _ _⟩, ht_Lw_means_0 l D cI cZ cJ a o f hN (r := r) h⟩
      · cases hm
set_option maxHeartbeats 4000000 in
set_option maxRecDepth 100000 in
theorem ha_Lw_common (l : Launch) (D : va_G) (cI cZ cJ : ClassId) (a : Nat → Nat) (o : Nat) (f : Nat → Int64) {V : Sto} {p1 r : Int32} {V' : Sto} (h : f_Ly_common V p1 = some (.inl r, V')) : HM l D cI cZ cJ y_Lw_common b_Lw_common 4 hs_Lw_common rm_Lw_common [.ref (a 0), .int p1, .ref o] (wsF cI cZ a V 0 shpC ++ [outC cJ o f]) 0 (HB cI cZ cJ a o V' (fun v => (0 : Int32) = 0 → v = r.toInt64)) := by
  refine HM_of (by decide) (Nat.le_of_ble_eq_true rfl) ?_
  intro C hl hDD hcI hcZ hC hE hXT hNC hJ htb
  subst hl hDD hcI hcZ
  show Z C 4 0 0 0 [(0, .ref (a 0)), (1, .int p1), (2, .ref o)] [] ([] ++ (wsF C.cI C.cZ a V 0 shpC ++ [outC cJ o f]))
  refine Z_aload_n (pc := 0) hC d_Lw_common_0 rfl 2 rfl ?_
  refine Z_iconst (pc := 1) hC d_Lw_common_1 ki_0 ?_
  refine Z_aload_n (pc := 2) hC d_Lw_common_2 rfl 0 rfl ?_
  refine Z_iload_n (pc := 3) hC d_Lw_common_3 rfl 1 rfl ?_
  refine Z_vi (P := []) (S := [outC cJ o f]) (pc := 4) hC (c_Ly_common C.l C.D C.cI C.cZ a h) sc_0 cls_Ly ml_LinkYardLaw_65 mv_Ly_common ⟨⟨Nat.le_refl _, Nat.le_refl _⟩, rfl, rfl⟩ ⟨Nat.le_refl _, Nat.le_refl _⟩ (Nat.le_of_ble_eq_true rfl) rfl d_Lw_common_4 ?_
  refine Z_i2l (pc := 7) hC d_Lw_common_7 ?_
  refine Z_last (pc := 8) (X := wsF C.cI C.cZ a V' 0 shpC) (f := f) hC hJ d_Lw_common_8 (fun f1 hf1 => ?_)
  refine Z_goto (pc := 9) hC 18 d_Lw_common_9 rfl ?_
  refine Z_iconst (pc := 18) hC d_Lw_common_18 ki_0 ?_
  exact Z_iretH (pc := 19) hC hE ⟨Nat.le_refl _, Nat.le_refl _⟩ d_Lw_common_19 rfl ⟨a, f1, rfl, fun _ => hf1, rfl⟩
set_option maxHeartbeats 4000000 in
set_option maxRecDepth 100000 in
theorem ht_Lw_common_1 (l : Launch) (D : va_G) (cI cZ cJ : ClassId) (a : Nat → Nat) (o : Nat) (f : Nat → Int64) (hN : NoTr l) {V : Sto} {p1 r : Int32} {V' : Sto} (h : f_Ly_common V p1 = some (.inr 1, V')) : HM l D cI cZ cJ y_Lw_common b_Lw_common 4 hs_Lw_common rmt_Lw_common [.ref (a 0), .int p1, .ref o] (wsF cI cZ a V 0 shpC ++ [outC cJ o f]) 1 (HB cI cZ cJ a o V (fun v => (1 : Int32) = 0 → v = r.toInt64)) := by
  refine HM_of (by decide) (Nat.le_of_ble_eq_true rfl) ?_
  intro C hl hDD hcI hcZ hC hE hXT hNC hJ htb
  subst hl hDD hcI hcZ
  show Z C 4 0 0 0 [(0, .ref (a 0)), (1, .int p1), (2, .ref o)] [] ([] ++ (wsF C.cI C.cZ a V 0 shpC ++ [outC cJ o f]))
  refine Z_aload_n (pc := 0) hC d_Lw_common_0 rfl 2 rfl ?_
  refine Z_iconst (pc := 1) hC d_Lw_common_1 ki_0 ?_
  refine Z_aload_n (pc := 2) hC d_Lw_common_2 rfl 0 rfl ?_
  refine Z_iload_n (pc := 3) hC d_Lw_common_3 rfl 1 rfl ?_
  refine Z_catch (P := []) (S := [outC cJ o f]) (pc := 4) hC hXT hNC (t_Ly_common C.l C.D C.cI C.cZ a hN h) sc_0 cls_Ly ml_LinkYardLaw_65 mv_Ly_common ⟨⟨Nat.le_refl _, Nat.le_refl _⟩, rfl, rfl⟩ ⟨Nat.le_refl _, Nat.le_refl _⟩ (Nat.le_of_ble_eq_true rfl) rfl d_Lw_common_4 (h := 12) (by rw [htb]; exact Or.inl ⟨_, _, rfl, ⟨by decide, by decide⟩, by decide, rfl, cl_Lw_53, xw_1⟩) (fun q => ?_)
  refine Z_astore_n (pc := 12) hC (L' := [(3, .ref q), (0, .ref (a 0)), (1, .int p1), (2, .ref o)]) d_Lw_common_12 rfl (by decide) rfl ?_
  refine Z_iconst (pc := 13) hC d_Lw_common_13 ki_1 ?_
  exact Z_iretH (pc := 14) hC hE ⟨Nat.le_refl _, Nat.le_refl _⟩ d_Lw_common_14 rfl ⟨a, f, rfl, fun q => absurd q (by decide), rfl⟩
set_option maxHeartbeats 4000000 in
set_option maxRecDepth 100000 in
theorem ht_Lw_common_0 (l : Launch) (D : va_G) (cI cZ cJ : ClassId) (a : Nat → Nat) (o : Nat) (f : Nat → Int64) (hN : NoTr l) {V : Sto} {p1 r : Int32} {V' : Sto} (h : f_Ly_common V p1 = some (.inr 0, V')) : HM l D cI cZ cJ y_Lw_common b_Lw_common 4 hs_Lw_common rmt_Lw_common [.ref (a 0), .int p1, .ref o] (wsF cI cZ a V 0 shpC ++ [outC cJ o f]) 2 (HB cI cZ cJ a o V (fun v => (2 : Int32) = 0 → v = r.toInt64)) := by
  refine HM_of (by decide) (Nat.le_of_ble_eq_true rfl) ?_
  intro C hl hDD hcI hcZ hC hE hXT hNC hJ htb
  subst hl hDD hcI hcZ
  show Z C 4 0 0 0 [(0, .ref (a 0)), (1, .int p1), (2, .ref o)] [] ([] ++ (wsF C.cI C.cZ a V 0 shpC ++ [outC cJ o f]))
  refine Z_aload_n (pc := 0) hC d_Lw_common_0 rfl 2 rfl ?_
  refine Z_iconst (pc := 1) hC d_Lw_common_1 ki_0 ?_
  refine Z_aload_n (pc := 2) hC d_Lw_common_2 rfl 0 rfl ?_
  refine Z_iload_n (pc := 3) hC d_Lw_common_3 rfl 1 rfl ?_
  refine Z_catch (P := []) (S := [outC cJ o f]) (pc := 4) hC hXT hNC (t_Ly_common C.l C.D C.cI C.cZ a hN h) sc_0 cls_Ly ml_LinkYardLaw_65 mv_Ly_common ⟨⟨Nat.le_refl _, Nat.le_refl _⟩, rfl, rfl⟩ ⟨Nat.le_refl _, Nat.le_refl _⟩ (Nat.le_of_ble_eq_true rfl) rfl d_Lw_common_4 (h := 15) (by rw [htb]; exact Or.inr ⟨_, _, _, _, rfl, ⟨by decide, by decide⟩, by decide, cl_Lw_53, nc_1, ⟨by decide, by decide⟩, by decide, rfl, cl_Lw_13, xw_0⟩) (fun q => ?_)
  refine Z_astore_n (pc := 15) hC (L' := [(3, .ref q), (0, .ref (a 0)), (1, .int p1), (2, .ref o)]) d_Lw_common_15 rfl (by decide) rfl ?_
  refine Z_iconst (pc := 16) hC d_Lw_common_16 ki_2 ?_
  exact Z_iretH (pc := 17) hC hE ⟨Nat.le_refl _, Nat.le_refl _⟩ d_Lw_common_17 rfl ⟨a, f, rfl, fun q => absurd q (by decide), rfl⟩
abbrev cs_Lw_common : List (Nat × Int32) := [(1, 1), (0, 2)]
theorem h_Lw_common (l : Launch) (D : va_G) (cI cZ cJ : ClassId) (a : Nat → Nat) (o : Nat) (f : Nat → Int64) (hN : NoTr l) {V : Sto} {p1 k r : Int32} {V' : Sto} (h : HO cs_Lw_common (f_Ly_common V p1) V k r V') : HX l D cI cZ cJ y_Lw_common b_Lw_common 4 hs_Lw_common [.ref (a 0), .int p1, .ref o] (wsF cI cZ a V 0 shpC ++ [outC cJ o f]) k (HB cI cZ cJ a o V' (fun v => k = 0 → v = r.toInt64)) 0 := by
  rcases h with ⟨h, rfl⟩ | ⟨e, hm, h, rfl, hk⟩
  · exact ⟨_, ⟨Nat.le_of_ble_eq_true rfl, Nat.le_of_ble_eq_true rfl, Nat.zero_le _, Nat.zero_le _⟩, ha_Lw_common l D cI cZ cJ a o f h⟩
  · rcases List.mem_cons.mp hm with hm | hm
    · cases hm
      exact ⟨_, ⟨Nat.le_of_ble_eq_true rfl, Nat.le_of_ble_eq_true rfl, Nat.le_refl _, Nat.le_add_right _ _⟩, ht_Lw_common_1 l D cI cZ cJ a o f hN (r := r) h⟩
    · rcases List.mem_cons.mp hm with hm | hm
      · cases hm
        exact ⟨_, ⟨Nat.le_of_ble_eq_true rfl, Nat.le_of_ble_eq_true rfl, Nat.le_refl _, Nat.le_add_right _ _⟩, ht_Lw_common_0 l D cI cZ cJ a o f hN (r := r) h⟩
      · cases hm
set_option maxHeartbeats 4000000 in
set_option maxRecDepth 100000 in
theorem ha_Lw_at (l : Launch) (D : va_G) (cI cZ cJ : ClassId) (a : Nat → Nat) (o : Nat) (f : Nat → Int64) {V : Sto} {p1 r : Int32} {V' : Sto} (h : f_Ly_at V p1 = some (.inl r, V')) : HM l D cI cZ cJ y_Lw_at b_Lw_at 4 hs_Lw_at rm_Lw_at [.ref (a 0), .int p1, .ref o] (wsF cI cZ a V 0 shpC ++ [outC cJ o f]) 0 (HB cI cZ cJ a o V' (fun v => (0 : Int32) = 0 → v = r.toInt64)) := by
  refine HM_of (by decide) (Nat.le_of_ble_eq_true rfl) ?_
  intro C hl hDD hcI hcZ hC hE hXT hNC hJ htb
  subst hl hDD hcI hcZ
  show Z C 4 0 0 0 [(0, .ref (a 0)), (1, .int p1), (2, .ref o)] [] ([] ++ (wsF C.cI C.cZ a V 0 shpC ++ [outC cJ o f]))
  refine Z_aload_n (pc := 0) hC d_Lw_at_0 rfl 2 rfl ?_
  refine Z_iconst (pc := 1) hC d_Lw_at_1 ki_0 ?_
  refine Z_aload_n (pc := 2) hC d_Lw_at_2 rfl 0 rfl ?_
  refine Z_iload_n (pc := 3) hC d_Lw_at_3 rfl 1 rfl ?_
  refine Z_vi (P := []) (S := [outC cJ o f]) (pc := 4) hC (c_Ly_at C.l C.D C.cI C.cZ a h) sc_0 cls_Ly ml_LinkYardLaw_68 mv_Ly_at ⟨⟨Nat.le_refl _, Nat.le_refl _⟩, rfl, rfl⟩ ⟨Nat.le_refl _, Nat.le_refl _⟩ (Nat.le_of_ble_eq_true rfl) rfl d_Lw_at_4 ?_
  refine Z_i2l (pc := 7) hC d_Lw_at_7 ?_
  refine Z_last (pc := 8) (X := wsF C.cI C.cZ a V' 0 shpC) (f := f) hC hJ d_Lw_at_8 (fun f1 hf1 => ?_)
  refine Z_goto (pc := 9) hC 18 d_Lw_at_9 rfl ?_
  refine Z_iconst (pc := 18) hC d_Lw_at_18 ki_0 ?_
  exact Z_iretH (pc := 19) hC hE ⟨Nat.le_refl _, Nat.le_refl _⟩ d_Lw_at_19 rfl ⟨a, f1, rfl, fun _ => hf1, rfl⟩
set_option maxHeartbeats 4000000 in
set_option maxRecDepth 100000 in
theorem ht_Lw_at_1 (l : Launch) (D : va_G) (cI cZ cJ : ClassId) (a : Nat → Nat) (o : Nat) (f : Nat → Int64) (hN : NoTr l) {V : Sto} {p1 r : Int32} {V' : Sto} (h : f_Ly_at V p1 = some (.inr 1, V')) : HM l D cI cZ cJ y_Lw_at b_Lw_at 4 hs_Lw_at rmt_Lw_at [.ref (a 0), .int p1, .ref o] (wsF cI cZ a V 0 shpC ++ [outC cJ o f]) 1 (HB cI cZ cJ a o V (fun v => (1 : Int32) = 0 → v = r.toInt64)) := by
  refine HM_of (by decide) (Nat.le_of_ble_eq_true rfl) ?_
  intro C hl hDD hcI hcZ hC hE hXT hNC hJ htb
  subst hl hDD hcI hcZ
  show Z C 4 0 0 0 [(0, .ref (a 0)), (1, .int p1), (2, .ref o)] [] ([] ++ (wsF C.cI C.cZ a V 0 shpC ++ [outC cJ o f]))
  refine Z_aload_n (pc := 0) hC d_Lw_at_0 rfl 2 rfl ?_
  refine Z_iconst (pc := 1) hC d_Lw_at_1 ki_0 ?_
  refine Z_aload_n (pc := 2) hC d_Lw_at_2 rfl 0 rfl ?_
  refine Z_iload_n (pc := 3) hC d_Lw_at_3 rfl 1 rfl ?_
  refine Z_catch (P := []) (S := [outC cJ o f]) (pc := 4) hC hXT hNC (t_Ly_at C.l C.D C.cI C.cZ a hN h) sc_0 cls_Ly ml_LinkYardLaw_68 mv_Ly_at ⟨⟨Nat.le_refl _, Nat.le_refl _⟩, rfl, rfl⟩ ⟨Nat.le_refl _, Nat.le_refl _⟩ (Nat.le_of_ble_eq_true rfl) rfl d_Lw_at_4 (h := 12) (by rw [htb]; exact Or.inl ⟨_, _, rfl, ⟨by decide, by decide⟩, by decide, rfl, cl_Lw_53, xw_1⟩) (fun q => ?_)
  refine Z_astore_n (pc := 12) hC (L' := [(3, .ref q), (0, .ref (a 0)), (1, .int p1), (2, .ref o)]) d_Lw_at_12 rfl (by decide) rfl ?_
  refine Z_iconst (pc := 13) hC d_Lw_at_13 ki_1 ?_
  exact Z_iretH (pc := 14) hC hE ⟨Nat.le_refl _, Nat.le_refl _⟩ d_Lw_at_14 rfl ⟨a, f, rfl, fun q => absurd q (by decide), rfl⟩
set_option maxHeartbeats 4000000 in
set_option maxRecDepth 100000 in
theorem ht_Lw_at_2 (l : Launch) (D : va_G) (cI cZ cJ : ClassId) (a : Nat → Nat) (o : Nat) (f : Nat → Int64) (hN : NoTr l) {V : Sto} {p1 r : Int32} {V' : Sto} (h : f_Ly_at V p1 = some (.inr 2, V')) : HM l D cI cZ cJ y_Lw_at b_Lw_at 4 hs_Lw_at rmt_Lw_at [.ref (a 0), .int p1, .ref o] (wsF cI cZ a V 0 shpC ++ [outC cJ o f]) 2 (HB cI cZ cJ a o V (fun v => (2 : Int32) = 0 → v = r.toInt64)) := by
  refine HM_of (by decide) (Nat.le_of_ble_eq_true rfl) ?_
  intro C hl hDD hcI hcZ hC hE hXT hNC hJ htb
  subst hl hDD hcI hcZ
  show Z C 4 0 0 0 [(0, .ref (a 0)), (1, .int p1), (2, .ref o)] [] ([] ++ (wsF C.cI C.cZ a V 0 shpC ++ [outC cJ o f]))
  refine Z_aload_n (pc := 0) hC d_Lw_at_0 rfl 2 rfl ?_
  refine Z_iconst (pc := 1) hC d_Lw_at_1 ki_0 ?_
  refine Z_aload_n (pc := 2) hC d_Lw_at_2 rfl 0 rfl ?_
  refine Z_iload_n (pc := 3) hC d_Lw_at_3 rfl 1 rfl ?_
  refine Z_catch (P := []) (S := [outC cJ o f]) (pc := 4) hC hXT hNC (t_Ly_at C.l C.D C.cI C.cZ a hN h) sc_0 cls_Ly ml_LinkYardLaw_68 mv_Ly_at ⟨⟨Nat.le_refl _, Nat.le_refl _⟩, rfl, rfl⟩ ⟨Nat.le_refl _, Nat.le_refl _⟩ (Nat.le_of_ble_eq_true rfl) rfl d_Lw_at_4 (h := 15) (by rw [htb]; exact Or.inr ⟨_, _, _, _, rfl, ⟨by decide, by decide⟩, by decide, cl_Lw_53, nc_2, ⟨by decide, by decide⟩, by decide, rfl, cl_Lw_71, xw_2⟩) (fun q => ?_)
  refine Z_astore_n (pc := 15) hC (L' := [(3, .ref q), (0, .ref (a 0)), (1, .int p1), (2, .ref o)]) d_Lw_at_15 rfl (by decide) rfl ?_
  refine Z_iconst (pc := 16) hC d_Lw_at_16 ki_2 ?_
  exact Z_iretH (pc := 17) hC hE ⟨Nat.le_refl _, Nat.le_refl _⟩ d_Lw_at_17 rfl ⟨a, f, rfl, fun q => absurd q (by decide), rfl⟩
abbrev cs_Lw_at : List (Nat × Int32) := [(1, 1), (2, 2)]
theorem h_Lw_at (l : Launch) (D : va_G) (cI cZ cJ : ClassId) (a : Nat → Nat) (o : Nat) (f : Nat → Int64) (hN : NoTr l) {V : Sto} {p1 k r : Int32} {V' : Sto} (h : HO cs_Lw_at (f_Ly_at V p1) V k r V') : HX l D cI cZ cJ y_Lw_at b_Lw_at 4 hs_Lw_at [.ref (a 0), .int p1, .ref o] (wsF cI cZ a V 0 shpC ++ [outC cJ o f]) k (HB cI cZ cJ a o V' (fun v => k = 0 → v = r.toInt64)) 0 := by
  rcases h with ⟨h, rfl⟩ | ⟨e, hm, h, rfl, hk⟩
  · exact ⟨_, ⟨Nat.le_of_ble_eq_true rfl, Nat.le_of_ble_eq_true rfl, Nat.zero_le _, Nat.zero_le _⟩, ha_Lw_at l D cI cZ cJ a o f h⟩
  · rcases List.mem_cons.mp hm with hm | hm
    · cases hm
      exact ⟨_, ⟨Nat.le_of_ble_eq_true rfl, Nat.le_of_ble_eq_true rfl, Nat.le_refl _, Nat.le_add_right _ _⟩, ht_Lw_at_1 l D cI cZ cJ a o f hN (r := r) h⟩
    · rcases List.mem_cons.mp hm with hm | hm
      · cases hm
        exact ⟨_, ⟨Nat.le_of_ble_eq_true rfl, Nat.le_of_ble_eq_true rfl, Nat.le_refl _, Nat.le_add_right _ _⟩, ht_Lw_at_2 l D cI cZ cJ a o f hN (r := r) h⟩
      · cases hm
set_option maxHeartbeats 4000000 in
set_option maxRecDepth 100000 in
theorem ha_Lw_about (l : Launch) (D : va_G) (cI cZ cJ : ClassId) (a : Nat → Nat) (o : Nat) (f : Nat → Int64) {V : Sto} {p1 r : Int32} {V' : Sto} (h : f_Ly_about V p1 = some (.inl r, V')) : HM l D cI cZ cJ y_Lw_about b_Lw_about 4 hs_Lw_about rm_Lw_about [.ref (a 0), .int p1, .ref o] (wsF cI cZ a V 0 shpC ++ [outC cJ o f]) 0 (HB cI cZ cJ a o V' (fun v => (0 : Int32) = 0 → v = r.toInt64)) := by
  refine HM_of (by decide) (Nat.le_of_ble_eq_true rfl) ?_
  intro C hl hDD hcI hcZ hC hE hXT hNC hJ htb
  subst hl hDD hcI hcZ
  show Z C 4 0 0 0 [(0, .ref (a 0)), (1, .int p1), (2, .ref o)] [] ([] ++ (wsF C.cI C.cZ a V 0 shpC ++ [outC cJ o f]))
  refine Z_aload_n (pc := 0) hC d_Lw_about_0 rfl 2 rfl ?_
  refine Z_iconst (pc := 1) hC d_Lw_about_1 ki_0 ?_
  refine Z_aload_n (pc := 2) hC d_Lw_about_2 rfl 0 rfl ?_
  refine Z_iload_n (pc := 3) hC d_Lw_about_3 rfl 1 rfl ?_
  refine Z_vi (P := []) (S := [outC cJ o f]) (pc := 4) hC (c_Ly_about C.l C.D C.cI C.cZ a h) sc_0 cls_Ly ml_LinkYardLaw_73 mv_Ly_about ⟨⟨Nat.le_refl _, Nat.le_refl _⟩, rfl, rfl⟩ ⟨Nat.le_refl _, Nat.le_refl _⟩ (Nat.le_of_ble_eq_true rfl) rfl d_Lw_about_4 ?_
  refine Z_i2l (pc := 7) hC d_Lw_about_7 ?_
  refine Z_last (pc := 8) (X := wsF C.cI C.cZ a V' 0 shpC) (f := f) hC hJ d_Lw_about_8 (fun f1 hf1 => ?_)
  refine Z_goto (pc := 9) hC 18 d_Lw_about_9 rfl ?_
  refine Z_iconst (pc := 18) hC d_Lw_about_18 ki_0 ?_
  exact Z_iretH (pc := 19) hC hE ⟨Nat.le_refl _, Nat.le_refl _⟩ d_Lw_about_19 rfl ⟨a, f1, rfl, fun _ => hf1, rfl⟩
set_option maxHeartbeats 4000000 in
set_option maxRecDepth 100000 in
theorem ht_Lw_about_1 (l : Launch) (D : va_G) (cI cZ cJ : ClassId) (a : Nat → Nat) (o : Nat) (f : Nat → Int64) (hN : NoTr l) {V : Sto} {p1 r : Int32} {V' : Sto} (h : f_Ly_about V p1 = some (.inr 1, V')) : HM l D cI cZ cJ y_Lw_about b_Lw_about 4 hs_Lw_about rmt_Lw_about [.ref (a 0), .int p1, .ref o] (wsF cI cZ a V 0 shpC ++ [outC cJ o f]) 1 (HB cI cZ cJ a o V (fun v => (1 : Int32) = 0 → v = r.toInt64)) := by
  refine HM_of (by decide) (Nat.le_of_ble_eq_true rfl) ?_
  intro C hl hDD hcI hcZ hC hE hXT hNC hJ htb
  subst hl hDD hcI hcZ
  show Z C 4 0 0 0 [(0, .ref (a 0)), (1, .int p1), (2, .ref o)] [] ([] ++ (wsF C.cI C.cZ a V 0 shpC ++ [outC cJ o f]))
  refine Z_aload_n (pc := 0) hC d_Lw_about_0 rfl 2 rfl ?_
  refine Z_iconst (pc := 1) hC d_Lw_about_1 ki_0 ?_
  refine Z_aload_n (pc := 2) hC d_Lw_about_2 rfl 0 rfl ?_
  refine Z_iload_n (pc := 3) hC d_Lw_about_3 rfl 1 rfl ?_
  refine Z_catch (P := []) (S := [outC cJ o f]) (pc := 4) hC hXT hNC (t_Ly_about C.l C.D C.cI C.cZ a hN h) sc_0 cls_Ly ml_LinkYardLaw_73 mv_Ly_about ⟨⟨Nat.le_refl _, Nat.le_refl _⟩, rfl, rfl⟩ ⟨Nat.le_refl _, Nat.le_refl _⟩ (Nat.le_of_ble_eq_true rfl) rfl d_Lw_about_4 (h := 12) (by rw [htb]; exact Or.inl ⟨_, _, rfl, ⟨by decide, by decide⟩, by decide, rfl, cl_Lw_53, xw_1⟩) (fun q => ?_)
  refine Z_astore_n (pc := 12) hC (L' := [(3, .ref q), (0, .ref (a 0)), (1, .int p1), (2, .ref o)]) d_Lw_about_12 rfl (by decide) rfl ?_
  refine Z_iconst (pc := 13) hC d_Lw_about_13 ki_1 ?_
  exact Z_iretH (pc := 14) hC hE ⟨Nat.le_refl _, Nat.le_refl _⟩ d_Lw_about_14 rfl ⟨a, f, rfl, fun q => absurd q (by decide), rfl⟩
set_option maxHeartbeats 4000000 in
set_option maxRecDepth 100000 in
theorem ht_Lw_about_0 (l : Launch) (D : va_G) (cI cZ cJ : ClassId) (a : Nat → Nat) (o : Nat) (f : Nat → Int64) (hN : NoTr l) {V : Sto} {p1 r : Int32} {V' : Sto} (h : f_Ly_about V p1 = some (.inr 0, V')) : HM l D cI cZ cJ y_Lw_about b_Lw_about 4 hs_Lw_about rmt_Lw_about [.ref (a 0), .int p1, .ref o] (wsF cI cZ a V 0 shpC ++ [outC cJ o f]) 2 (HB cI cZ cJ a o V (fun v => (2 : Int32) = 0 → v = r.toInt64)) := by
  refine HM_of (by decide) (Nat.le_of_ble_eq_true rfl) ?_
  intro C hl hDD hcI hcZ hC hE hXT hNC hJ htb
  subst hl hDD hcI hcZ
  show Z C 4 0 0 0 [(0, .ref (a 0)), (1, .int p1), (2, .ref o)] [] ([] ++ (wsF C.cI C.cZ a V 0 shpC ++ [outC cJ o f]))
  refine Z_aload_n (pc := 0) hC d_Lw_about_0 rfl 2 rfl ?_
  refine Z_iconst (pc := 1) hC d_Lw_about_1 ki_0 ?_
  refine Z_aload_n (pc := 2) hC d_Lw_about_2 rfl 0 rfl ?_
  refine Z_iload_n (pc := 3) hC d_Lw_about_3 rfl 1 rfl ?_
  refine Z_catch (P := []) (S := [outC cJ o f]) (pc := 4) hC hXT hNC (t_Ly_about C.l C.D C.cI C.cZ a hN h) sc_0 cls_Ly ml_LinkYardLaw_73 mv_Ly_about ⟨⟨Nat.le_refl _, Nat.le_refl _⟩, rfl, rfl⟩ ⟨Nat.le_refl _, Nat.le_refl _⟩ (Nat.le_of_ble_eq_true rfl) rfl d_Lw_about_4 (h := 15) (by rw [htb]; exact Or.inr ⟨_, _, _, _, rfl, ⟨by decide, by decide⟩, by decide, cl_Lw_53, nc_1, ⟨by decide, by decide⟩, by decide, rfl, cl_Lw_13, xw_0⟩) (fun q => ?_)
  refine Z_astore_n (pc := 15) hC (L' := [(3, .ref q), (0, .ref (a 0)), (1, .int p1), (2, .ref o)]) d_Lw_about_15 rfl (by decide) rfl ?_
  refine Z_iconst (pc := 16) hC d_Lw_about_16 ki_2 ?_
  exact Z_iretH (pc := 17) hC hE ⟨Nat.le_refl _, Nat.le_refl _⟩ d_Lw_about_17 rfl ⟨a, f, rfl, fun q => absurd q (by decide), rfl⟩
abbrev cs_Lw_about : List (Nat × Int32) := [(1, 1), (0, 2)]
theorem h_Lw_about (l : Launch) (D : va_G) (cI cZ cJ : ClassId) (a : Nat → Nat) (o : Nat) (f : Nat → Int64) (hN : NoTr l) {V : Sto} {p1 k r : Int32} {V' : Sto} (h : HO cs_Lw_about (f_Ly_about V p1) V k r V') : HX l D cI cZ cJ y_Lw_about b_Lw_about 4 hs_Lw_about [.ref (a 0), .int p1, .ref o] (wsF cI cZ a V 0 shpC ++ [outC cJ o f]) k (HB cI cZ cJ a o V' (fun v => k = 0 → v = r.toInt64)) 0 := by
  rcases h with ⟨h, rfl⟩ | ⟨e, hm, h, rfl, hk⟩
  · exact ⟨_, ⟨Nat.le_of_ble_eq_true rfl, Nat.le_of_ble_eq_true rfl, Nat.zero_le _, Nat.zero_le _⟩, ha_Lw_about l D cI cZ cJ a o f h⟩
  · rcases List.mem_cons.mp hm with hm | hm
    · cases hm
      exact ⟨_, ⟨Nat.le_of_ble_eq_true rfl, Nat.le_of_ble_eq_true rfl, Nat.le_refl _, Nat.le_add_right _ _⟩, ht_Lw_about_1 l D cI cZ cJ a o f hN (r := r) h⟩
    · rcases List.mem_cons.mp hm with hm | hm
      · cases hm
        exact ⟨_, ⟨Nat.le_of_ble_eq_true rfl, Nat.le_of_ble_eq_true rfl, Nat.le_refl _, Nat.le_add_right _ _⟩, ht_Lw_about_0 l D cI cZ cJ a o f hN (r := r) h⟩
      · cases hm
