set_option maxHeartbeats 40000000 in
set_option maxRecDepth 100000 in
theorem k_Un (l : Launch) (D : va_G) (cI cZ : ClassId) (h0 : Nat) : KM l D cI cZ y_Un_init b_Un_init 1 rm_Un_init h0 (.inr (1, [.int 0, .null, .null])) [] (fun _ => True) (fun w => ∃ q1 q2 : Nat, w = [(h0, .inr (1, [.int 0, .ref q1, .ref q2])), (q1, .inl (cI, 24, .inl (fun _ => 0))), (q2, .inl (cZ, 24, .inl (fun _ => 0)))]) := by
  refine KM_of (by decide) rfl (Nat.le_of_ble_eq_true rfl) ?_
  intro C hl hDD hcI hcZ hC hE hX
  subst hl hDD hcI hcZ
  show Z C 1 0 0 0 [(0, .ref h0)] [] [(h0, .inr (1, [.int 0, .null, .null]))]
  refine Z_aload_n (pc := 0) hC d_Un_init_0 rfl 0 rfl ?_
  refine Z_objInit (pc := 1) hC mo_Un_3 d_Un_init_1 (by decide) ?_
  refine Z_aload_n (pc := 4) hC d_Un_init_4 rfl 0 rfl ?_
  refine Z_bipush (pc := 5) hC d_Un_init_5 kb_24 ?_
  refine Z_newI (pc := 7) hC (N := 24) rfl (by decide) d_Un_init_7 ⟨by decide, by decide⟩ (fun q1 => ?_)
  refine Z_putF (pc := 9) hC (q0 := 0) (ws' := [(h0, .inr (1, [.int 0, .ref q1, .null])), (q1, .inl (C.cI, 24, .inl (fun _ => 0)))]) hE.2.1 rfl fl_Un_9 fp_Un ff_Un_1 rfl rfl (Nat.le_of_ble_eq_true rfl) rfl d_Un_init_9 ?_
  refine Z_aload_n (pc := 12) hC d_Un_init_12 rfl 0 rfl ?_
  refine Z_bipush (pc := 13) hC d_Un_init_13 kb_24 ?_
  refine Z_newZ (pc := 15) hC (N := 24) rfl (by decide) d_Un_init_15 ⟨by decide, by decide⟩ (fun q2 => ?_)
  refine Z_putF (pc := 17) hC (q0 := 0) (ws' := [(h0, .inr (1, [.int 0, .ref q1, .ref q2])), (q1, .inl (C.cI, 24, .inl (fun _ => 0))), (q2, .inl (C.cZ, 24, .inl (fun _ => 0)))]) hE.2.1 rfl fl_Un_15 fp_Un ff_Un_2 rfl rfl (Nat.le_of_ble_eq_true rfl) rfl d_Un_init_17 ?_
  exact Z_vret (pc := 20) hC hE ⟨by decide, by decide⟩ d_Un_init_20 ⟨q1, q2, rfl⟩
set_option maxHeartbeats 40000000 in
set_option maxRecDepth 100000 in
theorem k_Se (l : Launch) (D : va_G) (cI cZ : ClassId) (h0 : Nat) : KM l D cI cZ y_Se_init b_Se_init 1 rm_Se_init h0 (.inr (2, [.int 0, .int 0, .int 0, .null, .null, .null, .null, .null, .null, .null])) [] (fun _ => True) (fun w => ∃ q1 q2 q3 q4 q5 q6 q7 : Nat, w = [(h0, .inr (2, [.int 0, .int 0, .int 0, .ref q1, .ref q2, .ref q3, .ref q4, .ref q5, .ref q6, .ref q7])), (q1, .inl (cI, 1024, .inl (fun _ => 0))), (q2, .inl (cI, 96, .inl (fun _ => 0))), (q3, .inl (cI, 96, .inl (fun _ => 0))), (q4, .inl (cI, 96, .inl (fun _ => 0))), (q5, .inl (cI, 96, .inl (fun _ => 0))), (q6, .inl (cI, 96, .inl (fun _ => 0))), (q7, .inl (cZ, 96, .inl (fun _ => 0)))]) := by
  refine KM_of (by decide) rfl (Nat.le_of_ble_eq_true rfl) ?_
  intro C hl hDD hcI hcZ hC hE hX
  subst hl hDD hcI hcZ
  show Z C 1 0 0 0 [(0, .ref h0)] [] [(h0, .inr (2, [.int 0, .int 0, .int 0, .null, .null, .null, .null, .null, .null, .null]))]
  refine Z_aload_n (pc := 0) hC d_Se_init_0 rfl 0 rfl ?_
  refine Z_objInit (pc := 1) hC mo_Se_3 d_Se_init_1 (by decide) ?_
  refine Z_aload_n (pc := 4) hC d_Se_init_4 rfl 0 rfl ?_
  refine Z_sipush (pc := 5) hC d_Se_init_5 ks_1024 ?_
  refine Z_newI (pc := 8) hC (N := 1024) rfl (by decide) d_Se_init_8 ⟨by decide, by decide⟩ (fun q1 => ?_)
  refine Z_put (pc := 10) hC (q0 := 0) (ws' := [(h0, .inr (2, [.int 0, .int 0, .int 0, .ref q1, .null, .null, .null, .null, .null, .null])), (q1, .inl (C.cI, 1024, .inl (fun _ => 0)))]) rfl fl_Se_9 fp_Se ft_Se_3 rfl rfl (Nat.le_of_ble_eq_true rfl) rfl d_Se_init_10 ?_
  refine Z_aload_n (pc := 13) hC d_Se_init_13 rfl 0 rfl ?_
  refine Z_bipush (pc := 14) hC d_Se_init_14 kb_96 ?_
  refine Z_newI (pc := 16) hC (N := 96) rfl (by decide) d_Se_init_16 ⟨by decide, by decide⟩ (fun q2 => ?_)
  refine Z_putF (pc := 18) hC (q0 := 0) (ws' := [(h0, .inr (2, [.int 0, .int 0, .int 0, .ref q1, .ref q2, .null, .null, .null, .null, .null])), (q1, .inl (C.cI, 1024, .inl (fun _ => 0))), (q2, .inl (C.cI, 96, .inl (fun _ => 0)))]) hE.2.1 rfl fl_Se_15 fp_Se ff_Se_4 rfl rfl (Nat.le_of_ble_eq_true rfl) rfl d_Se_init_18 ?_
  refine Z_aload_n (pc := 21) hC d_Se_init_21 rfl 0 rfl ?_
  refine Z_bipush (pc := 22) hC d_Se_init_22 kb_96 ?_
  refine Z_newI (pc := 24) hC (N := 96) rfl (by decide) d_Se_init_24 ⟨by decide, by decide⟩ (fun q3 => ?_)
  refine Z_putF (pc := 26) hC (q0 := 0) (ws' := [(h0, .inr (2, [.int 0, .int 0, .int 0, .ref q1, .ref q2, .ref q3, .null, .null, .null, .null])), (q1, .inl (C.cI, 1024, .inl (fun _ => 0))), (q2, .inl (C.cI, 96, .inl (fun _ => 0))), (q3, .inl (C.cI, 96, .inl (fun _ => 0)))]) hE.2.1 rfl fl_Se_18 fp_Se ff_Se_5 rfl rfl (Nat.le_of_ble_eq_true rfl) rfl d_Se_init_26 ?_
  refine Z_aload_n (pc := 29) hC d_Se_init_29 rfl 0 rfl ?_
  refine Z_bipush (pc := 30) hC d_Se_init_30 kb_96 ?_
  refine Z_newI (pc := 32) hC (N := 96) rfl (by decide) d_Se_init_32 ⟨by decide, by decide⟩ (fun q4 => ?_)
  refine Z_putF (pc := 34) hC (q0 := 0) (ws' := [(h0, .inr (2, [.int 0, .int 0, .int 0, .ref q1, .ref q2, .ref q3, .ref q4, .null, .null, .null])), (q1, .inl (C.cI, 1024, .inl (fun _ => 0))), (q2, .inl (C.cI, 96, .inl (fun _ => 0))), (q3, .inl (C.cI, 96, .inl (fun _ => 0))), (q4, .inl (C.cI, 96, .inl (fun _ => 0)))]) hE.2.1 rfl fl_Se_21 fp_Se ff_Se_6 rfl rfl (Nat.le_of_ble_eq_true rfl) rfl d_Se_init_34 ?_
  refine Z_aload_n (pc := 37) hC d_Se_init_37 rfl 0 rfl ?_
  refine Z_bipush (pc := 38) hC d_Se_init_38 kb_96 ?_
  refine Z_newI (pc := 40) hC (N := 96) rfl (by decide) d_Se_init_40 ⟨by decide, by decide⟩ (fun q5 => ?_)
  refine Z_putF (pc := 42) hC (q0 := 0) (ws' := [(h0, .inr (2, [.int 0, .int 0, .int 0, .ref q1, .ref q2, .ref q3, .ref q4, .ref q5, .null, .null])), (q1, .inl (C.cI, 1024, .inl (fun _ => 0))), (q2, .inl (C.cI, 96, .inl (fun _ => 0))), (q3, .inl (C.cI, 96, .inl (fun _ => 0))), (q4, .inl (C.cI, 96, .inl (fun _ => 0))), (q5, .inl (C.cI, 96, .inl (fun _ => 0)))]) hE.2.1 rfl fl_Se_24 fp_Se ff_Se_7 rfl rfl (Nat.le_of_ble_eq_true rfl) rfl d_Se_init_42 ?_
  refine Z_aload_n (pc := 45) hC d_Se_init_45 rfl 0 rfl ?_
  refine Z_bipush (pc := 46) hC d_Se_init_46 kb_96 ?_
  refine Z_newI (pc := 48) hC (N := 96) rfl (by decide) d_Se_init_48 ⟨by decide, by decide⟩ (fun q6 => ?_)
  refine Z_putF (pc := 50) hC (q0 := 0) (ws' := [(h0, .inr (2, [.int 0, .int 0, .int 0, .ref q1, .ref q2, .ref q3, .ref q4, .ref q5, .ref q6, .null])), (q1, .inl (C.cI, 1024, .inl (fun _ => 0))), (q2, .inl (C.cI, 96, .inl (fun _ => 0))), (q3, .inl (C.cI, 96, .inl (fun _ => 0))), (q4, .inl (C.cI, 96, .inl (fun _ => 0))), (q5, .inl (C.cI, 96, .inl (fun _ => 0))), (q6, .inl (C.cI, 96, .inl (fun _ => 0)))]) hE.2.1 rfl fl_Se_27 fp_Se ff_Se_8 rfl rfl (Nat.le_of_ble_eq_true rfl) rfl d_Se_init_50 ?_
  refine Z_aload_n (pc := 53) hC d_Se_init_53 rfl 0 rfl ?_
  refine Z_bipush (pc := 54) hC d_Se_init_54 kb_96 ?_
  refine Z_newZ (pc := 56) hC (N := 96) rfl (by decide) d_Se_init_56 ⟨by decide, by decide⟩ (fun q7 => ?_)
  refine Z_putF (pc := 58) hC (q0 := 0) (ws' := [(h0, .inr (2, [.int 0, .int 0, .int 0, .ref q1, .ref q2, .ref q3, .ref q4, .ref q5, .ref q6, .ref q7])), (q1, .inl (C.cI, 1024, .inl (fun _ => 0))), (q2, .inl (C.cI, 96, .inl (fun _ => 0))), (q3, .inl (C.cI, 96, .inl (fun _ => 0))), (q4, .inl (C.cI, 96, .inl (fun _ => 0))), (q5, .inl (C.cI, 96, .inl (fun _ => 0))), (q6, .inl (C.cI, 96, .inl (fun _ => 0))), (q7, .inl (C.cZ, 96, .inl (fun _ => 0)))]) hE.2.1 rfl fl_Se_30 fp_Se ff_Se_9 rfl rfl (Nat.le_of_ble_eq_true rfl) rfl d_Se_init_58 ?_
  exact Z_vret (pc := 61) hC hE ⟨by decide, by decide⟩ d_Se_init_61 ⟨q1, q2, q3, q4, q5, q6, q7, rfl⟩
set_option maxHeartbeats 40000000 in
set_option maxRecDepth 100000 in
theorem k_Sy (l : Launch) (D : va_G) (cI cZ : ClassId) (h0 : Nat) : KM l D cI cZ y_Sy_init b_Sy_init 1 rm_Sy_init h0 (.inr (3, [.int 0, .null, .null, .null, .null, .null, .null])) [] (fun _ => True) (fun w => ∃ q1 q2 q3 q4 q5 q6 : Nat, w = [(h0, .inr (3, [.int 0, .ref q1, .ref q2, .ref q3, .ref q4, .ref q5, .ref q6])), (q1, .inl (cI, 400, .inl (fun _ => 0))), (q2, .inl (cI, 400, .inl (fun _ => 0))), (q3, .inl (cI, 400, .inl (fun _ => 0))), (q4, .inl (cI, 400, .inl (fun _ => 0))), (q5, .inl (cI, 400, .inl (fun _ => 0))), (q6, .inl (cI, 400, .inl (fun _ => 0)))]) := by
  refine KM_of (by decide) rfl (Nat.le_of_ble_eq_true rfl) ?_
  intro C hl hDD hcI hcZ hC hE hX
  subst hl hDD hcI hcZ
  show Z C 1 0 0 0 [(0, .ref h0)] [] [(h0, .inr (3, [.int 0, .null, .null, .null, .null, .null, .null]))]
  refine Z_aload_n (pc := 0) hC d_Sy_init_0 rfl 0 rfl ?_
  refine Z_objInit (pc := 1) hC mo_Sy_3 d_Sy_init_1 (by decide) ?_
  refine Z_aload_n (pc := 4) hC d_Sy_init_4 rfl 0 rfl ?_
  refine Z_sipush (pc := 5) hC d_Sy_init_5 ks_400 ?_
  refine Z_newI (pc := 8) hC (N := 400) rfl (by decide) d_Sy_init_8 ⟨by decide, by decide⟩ (fun q1 => ?_)
  refine Z_putF (pc := 10) hC (q0 := 0) (ws' := [(h0, .inr (3, [.int 0, .ref q1, .null, .null, .null, .null, .null])), (q1, .inl (C.cI, 400, .inl (fun _ => 0)))]) hE.2.1 rfl fl_Sy_9 fp_Sy ff_Sy_1 rfl rfl (Nat.le_of_ble_eq_true rfl) rfl d_Sy_init_10 ?_
  refine Z_aload_n (pc := 13) hC d_Sy_init_13 rfl 0 rfl ?_
  refine Z_sipush (pc := 14) hC d_Sy_init_14 ks_400 ?_
  refine Z_newI (pc := 17) hC (N := 400) rfl (by decide) d_Sy_init_17 ⟨by decide, by decide⟩ (fun q2 => ?_)
  refine Z_putF (pc := 19) hC (q0 := 0) (ws' := [(h0, .inr (3, [.int 0, .ref q1, .ref q2, .null, .null, .null, .null])), (q1, .inl (C.cI, 400, .inl (fun _ => 0))), (q2, .inl (C.cI, 400, .inl (fun _ => 0)))]) hE.2.1 rfl fl_Sy_15 fp_Sy ff_Sy_2 rfl rfl (Nat.le_of_ble_eq_true rfl) rfl d_Sy_init_19 ?_
  refine Z_aload_n (pc := 22) hC d_Sy_init_22 rfl 0 rfl ?_
  refine Z_sipush (pc := 23) hC d_Sy_init_23 ks_400 ?_
  refine Z_newI (pc := 26) hC (N := 400) rfl (by decide) d_Sy_init_26 ⟨by decide, by decide⟩ (fun q3 => ?_)
  refine Z_putF (pc := 28) hC (q0 := 0) (ws' := [(h0, .inr (3, [.int 0, .ref q1, .ref q2, .ref q3, .null, .null, .null])), (q1, .inl (C.cI, 400, .inl (fun _ => 0))), (q2, .inl (C.cI, 400, .inl (fun _ => 0))), (q3, .inl (C.cI, 400, .inl (fun _ => 0)))]) hE.2.1 rfl fl_Sy_18 fp_Sy ff_Sy_3 rfl rfl (Nat.le_of_ble_eq_true rfl) rfl d_Sy_init_28 ?_
  refine Z_aload_n (pc := 31) hC d_Sy_init_31 rfl 0 rfl ?_
  refine Z_sipush (pc := 32) hC d_Sy_init_32 ks_400 ?_
  refine Z_newI (pc := 35) hC (N := 400) rfl (by decide) d_Sy_init_35 ⟨by decide, by decide⟩ (fun q4 => ?_)
  refine Z_putF (pc := 37) hC (q0 := 0) (ws' := [(h0, .inr (3, [.int 0, .ref q1, .ref q2, .ref q3, .ref q4, .null, .null])), (q1, .inl (C.cI, 400, .inl (fun _ => 0))), (q2, .inl (C.cI, 400, .inl (fun _ => 0))), (q3, .inl (C.cI, 400, .inl (fun _ => 0))), (q4, .inl (C.cI, 400, .inl (fun _ => 0)))]) hE.2.1 rfl fl_Sy_21 fp_Sy ff_Sy_4 rfl rfl (Nat.le_of_ble_eq_true rfl) rfl d_Sy_init_37 ?_
  refine Z_aload_n (pc := 40) hC d_Sy_init_40 rfl 0 rfl ?_
  refine Z_sipush (pc := 41) hC d_Sy_init_41 ks_400 ?_
  refine Z_newI (pc := 44) hC (N := 400) rfl (by decide) d_Sy_init_44 ⟨by decide, by decide⟩ (fun q5 => ?_)
  refine Z_putF (pc := 46) hC (q0 := 0) (ws' := [(h0, .inr (3, [.int 0, .ref q1, .ref q2, .ref q3, .ref q4, .ref q5, .null])), (q1, .inl (C.cI, 400, .inl (fun _ => 0))), (q2, .inl (C.cI, 400, .inl (fun _ => 0))), (q3, .inl (C.cI, 400, .inl (fun _ => 0))), (q4, .inl (C.cI, 400, .inl (fun _ => 0))), (q5, .inl (C.cI, 400, .inl (fun _ => 0)))]) hE.2.1 rfl fl_Sy_24 fp_Sy ff_Sy_5 rfl rfl (Nat.le_of_ble_eq_true rfl) rfl d_Sy_init_46 ?_
  refine Z_aload_n (pc := 49) hC d_Sy_init_49 rfl 0 rfl ?_
  refine Z_sipush (pc := 50) hC d_Sy_init_50 ks_400 ?_
  refine Z_newI (pc := 53) hC (N := 400) rfl (by decide) d_Sy_init_53 ⟨by decide, by decide⟩ (fun q6 => ?_)
  refine Z_putF (pc := 55) hC (q0 := 0) (ws' := [(h0, .inr (3, [.int 0, .ref q1, .ref q2, .ref q3, .ref q4, .ref q5, .ref q6])), (q1, .inl (C.cI, 400, .inl (fun _ => 0))), (q2, .inl (C.cI, 400, .inl (fun _ => 0))), (q3, .inl (C.cI, 400, .inl (fun _ => 0))), (q4, .inl (C.cI, 400, .inl (fun _ => 0))), (q5, .inl (C.cI, 400, .inl (fun _ => 0))), (q6, .inl (C.cI, 400, .inl (fun _ => 0)))]) hE.2.1 rfl fl_Sy_27 fp_Sy ff_Sy_6 rfl rfl (Nat.le_of_ble_eq_true rfl) rfl d_Sy_init_55 ?_
  exact Z_vret (pc := 58) hC hE ⟨by decide, by decide⟩ d_Sy_init_58 ⟨q1, q2, q3, q4, q5, q6, rfl⟩
set_option maxHeartbeats 40000000 in
set_option maxRecDepth 100000 in
theorem k_Re (l : Launch) (D : va_G) (cI cZ : ClassId) (h0 : Nat) : KM l D cI cZ y_Re_init b_Re_init 1 rm_Re_init h0 (.inr (4, [.int 0, .null, .null, .null, .null, .null, .null, .null, .null])) [] (fun _ => True) (fun w => ∃ q1 q2 q3 q4 q5 q6 q7 q8 : Nat, w = [(h0, .inr (4, [.int 0, .ref q1, .ref q2, .ref q3, .ref q4, .ref q5, .ref q6, .ref q7, .ref q8])), (q1, .inl (cI, 600, .inl (fun _ => 0))), (q2, .inl (cI, 600, .inl (fun _ => 0))), (q3, .inl (cI, 600, .inl (fun _ => 0))), (q4, .inl (cI, 600, .inl (fun _ => 0))), (q5, .inl (cI, 600, .inl (fun _ => 0))), (q6, .inl (cI, 600, .inl (fun _ => 0))), (q7, .inl (cI, 97, .inl (fun _ => 0))), (q8, .inl (cI, 96, .inl (fun _ => 0)))]) := by
  refine KM_of (by decide) rfl (Nat.le_of_ble_eq_true rfl) ?_
  intro C hl hDD hcI hcZ hC hE hX
  subst hl hDD hcI hcZ
  show Z C 1 0 0 0 [(0, .ref h0)] [] [(h0, .inr (4, [.int 0, .null, .null, .null, .null, .null, .null, .null, .null]))]
  refine Z_aload_n (pc := 0) hC d_Re_init_0 rfl 0 rfl ?_
  refine Z_objInit (pc := 1) hC mo_Re_3 d_Re_init_1 (by decide) ?_
  refine Z_aload_n (pc := 4) hC d_Re_init_4 rfl 0 rfl ?_
  refine Z_sipush (pc := 5) hC d_Re_init_5 ks_600 ?_
  refine Z_newI (pc := 8) hC (N := 600) rfl (by decide) d_Re_init_8 ⟨by decide, by decide⟩ (fun q1 => ?_)
  refine Z_putF (pc := 10) hC (q0 := 0) (ws' := [(h0, .inr (4, [.int 0, .ref q1, .null, .null, .null, .null, .null, .null, .null])), (q1, .inl (C.cI, 600, .inl (fun _ => 0)))]) hE.2.1 rfl fl_Re_9 fp_Re ff_Re_1 rfl rfl (Nat.le_of_ble_eq_true rfl) rfl d_Re_init_10 ?_
  refine Z_aload_n (pc := 13) hC d_Re_init_13 rfl 0 rfl ?_
  refine Z_sipush (pc := 14) hC d_Re_init_14 ks_600 ?_
  refine Z_newI (pc := 17) hC (N := 600) rfl (by decide) d_Re_init_17 ⟨by decide, by decide⟩ (fun q2 => ?_)
  refine Z_putF (pc := 19) hC (q0 := 0) (ws' := [(h0, .inr (4, [.int 0, .ref q1, .ref q2, .null, .null, .null, .null, .null, .null])), (q1, .inl (C.cI, 600, .inl (fun _ => 0))), (q2, .inl (C.cI, 600, .inl (fun _ => 0)))]) hE.2.1 rfl fl_Re_15 fp_Re ff_Re_2 rfl rfl (Nat.le_of_ble_eq_true rfl) rfl d_Re_init_19 ?_
  refine Z_aload_n (pc := 22) hC d_Re_init_22 rfl 0 rfl ?_
  refine Z_sipush (pc := 23) hC d_Re_init_23 ks_600 ?_
  refine Z_newI (pc := 26) hC (N := 600) rfl (by decide) d_Re_init_26 ⟨by decide, by decide⟩ (fun q3 => ?_)
  refine Z_putF (pc := 28) hC (q0 := 0) (ws' := [(h0, .inr (4, [.int 0, .ref q1, .ref q2, .ref q3, .null, .null, .null, .null, .null])), (q1, .inl (C.cI, 600, .inl (fun _ => 0))), (q2, .inl (C.cI, 600, .inl (fun _ => 0))), (q3, .inl (C.cI, 600, .inl (fun _ => 0)))]) hE.2.1 rfl fl_Re_18 fp_Re ff_Re_3 rfl rfl (Nat.le_of_ble_eq_true rfl) rfl d_Re_init_28 ?_
  refine Z_aload_n (pc := 31) hC d_Re_init_31 rfl 0 rfl ?_
  refine Z_sipush (pc := 32) hC d_Re_init_32 ks_600 ?_
  refine Z_newI (pc := 35) hC (N := 600) rfl (by decide) d_Re_init_35 ⟨by decide, by decide⟩ (fun q4 => ?_)
  refine Z_putF (pc := 37) hC (q0 := 0) (ws' := [(h0, .inr (4, [.int 0, .ref q1, .ref q2, .ref q3, .ref q4, .null, .null, .null, .null])), (q1, .inl (C.cI, 600, .inl (fun _ => 0))), (q2, .inl (C.cI, 600, .inl (fun _ => 0))), (q3, .inl (C.cI, 600, .inl (fun _ => 0))), (q4, .inl (C.cI, 600, .inl (fun _ => 0)))]) hE.2.1 rfl fl_Re_21 fp_Re ff_Re_4 rfl rfl (Nat.le_of_ble_eq_true rfl) rfl d_Re_init_37 ?_
  refine Z_aload_n (pc := 40) hC d_Re_init_40 rfl 0 rfl ?_
  refine Z_sipush (pc := 41) hC d_Re_init_41 ks_600 ?_
  refine Z_newI (pc := 44) hC (N := 600) rfl (by decide) d_Re_init_44 ⟨by decide, by decide⟩ (fun q5 => ?_)
  refine Z_putF (pc := 46) hC (q0 := 0) (ws' := [(h0, .inr (4, [.int 0, .ref q1, .ref q2, .ref q3, .ref q4, .ref q5, .null, .null, .null])), (q1, .inl (C.cI, 600, .inl (fun _ => 0))), (q2, .inl (C.cI, 600, .inl (fun _ => 0))), (q3, .inl (C.cI, 600, .inl (fun _ => 0))), (q4, .inl (C.cI, 600, .inl (fun _ => 0))), (q5, .inl (C.cI, 600, .inl (fun _ => 0)))]) hE.2.1 rfl fl_Re_24 fp_Re ff_Re_5 rfl rfl (Nat.le_of_ble_eq_true rfl) rfl d_Re_init_46 ?_
  refine Z_aload_n (pc := 49) hC d_Re_init_49 rfl 0 rfl ?_
  refine Z_sipush (pc := 50) hC d_Re_init_50 ks_600 ?_
  refine Z_newI (pc := 53) hC (N := 600) rfl (by decide) d_Re_init_53 ⟨by decide, by decide⟩ (fun q6 => ?_)
  refine Z_putF (pc := 55) hC (q0 := 0) (ws' := [(h0, .inr (4, [.int 0, .ref q1, .ref q2, .ref q3, .ref q4, .ref q5, .ref q6, .null, .null])), (q1, .inl (C.cI, 600, .inl (fun _ => 0))), (q2, .inl (C.cI, 600, .inl (fun _ => 0))), (q3, .inl (C.cI, 600, .inl (fun _ => 0))), (q4, .inl (C.cI, 600, .inl (fun _ => 0))), (q5, .inl (C.cI, 600, .inl (fun _ => 0))), (q6, .inl (C.cI, 600, .inl (fun _ => 0)))]) hE.2.1 rfl fl_Re_27 fp_Re ff_Re_6 rfl rfl (Nat.le_of_ble_eq_true rfl) rfl d_Re_init_55 ?_
  refine Z_aload_n (pc := 58) hC d_Re_init_58 rfl 0 rfl ?_
  refine Z_bipush (pc := 59) hC d_Re_init_59 kb_97 ?_
  refine Z_newI (pc := 61) hC (N := 97) rfl (by decide) d_Re_init_61 ⟨by decide, by decide⟩ (fun q7 => ?_)
  refine Z_putF (pc := 63) hC (q0 := 0) (ws' := [(h0, .inr (4, [.int 0, .ref q1, .ref q2, .ref q3, .ref q4, .ref q5, .ref q6, .ref q7, .null])), (q1, .inl (C.cI, 600, .inl (fun _ => 0))), (q2, .inl (C.cI, 600, .inl (fun _ => 0))), (q3, .inl (C.cI, 600, .inl (fun _ => 0))), (q4, .inl (C.cI, 600, .inl (fun _ => 0))), (q5, .inl (C.cI, 600, .inl (fun _ => 0))), (q6, .inl (C.cI, 600, .inl (fun _ => 0))), (q7, .inl (C.cI, 97, .inl (fun _ => 0)))]) hE.2.1 rfl fl_Re_30 fp_Re ff_Re_7 rfl rfl (Nat.le_of_ble_eq_true rfl) rfl d_Re_init_63 ?_
  refine Z_aload_n (pc := 66) hC d_Re_init_66 rfl 0 rfl ?_
  refine Z_bipush (pc := 67) hC d_Re_init_67 kb_96 ?_
  refine Z_newI (pc := 69) hC (N := 96) rfl (by decide) d_Re_init_69 ⟨by decide, by decide⟩ (fun q8 => ?_)
  refine Z_putF (pc := 71) hC (q0 := 0) (ws' := [(h0, .inr (4, [.int 0, .ref q1, .ref q2, .ref q3, .ref q4, .ref q5, .ref q6, .ref q7, .ref q8])), (q1, .inl (C.cI, 600, .inl (fun _ => 0))), (q2, .inl (C.cI, 600, .inl (fun _ => 0))), (q3, .inl (C.cI, 600, .inl (fun _ => 0))), (q4, .inl (C.cI, 600, .inl (fun _ => 0))), (q5, .inl (C.cI, 600, .inl (fun _ => 0))), (q6, .inl (C.cI, 600, .inl (fun _ => 0))), (q7, .inl (C.cI, 97, .inl (fun _ => 0))), (q8, .inl (C.cI, 96, .inl (fun _ => 0)))]) hE.2.1 rfl fl_Re_33 fp_Re ff_Re_8 rfl rfl (Nat.le_of_ble_eq_true rfl) rfl d_Re_init_71 ?_
  exact Z_vret (pc := 74) hC hE ⟨by decide, by decide⟩ d_Re_init_74 ⟨q1, q2, q3, q4, q5, q6, q7, q8, rfl⟩
set_option maxHeartbeats 40000000 in
set_option maxRecDepth 100000 in
theorem k_Ar (l : Launch) (D : va_G) (cI cZ : ClassId) (h0 : Nat) (u1 u2 : Nat) : KM l D cI cZ y_Ar_init b_Ar_init 3 rm_Ar_init h0 (.inr (5, [.null, .null, .null, .null])) [.ref u1, .ref u2] (fun _ => True) (fun w => ∃ q1 q2 : Nat, w = [(h0, .inr (5, [.ref u1, .ref u2, .ref q1, .ref q2])), (q1, .inl (cZ, 200, .inl (fun _ => 0))), (q2, .inl (cZ, 200, .inl (fun _ => 0)))]) := by
  refine KM_of (by decide) rfl (Nat.le_of_ble_eq_true rfl) ?_
  intro C hl hDD hcI hcZ hC hE hX
  subst hl hDD hcI hcZ
  show Z C 3 0 0 0 [(0, .ref h0), (1, .ref u1), (2, .ref u2)] [] [(h0, .inr (5, [.null, .null, .null, .null]))]
  refine Z_aload_n (pc := 0) hC d_Ar_init_0 rfl 0 rfl ?_
  refine Z_objInit (pc := 1) hC mo_Ar_3 d_Ar_init_1 (by decide) ?_
  refine Z_aload_n (pc := 4) hC d_Ar_init_4 rfl 0 rfl ?_
  refine Z_sipush (pc := 5) hC d_Ar_init_5 ks_200 ?_
  refine Z_newZ (pc := 8) hC (N := 200) rfl (by decide) d_Ar_init_8 ⟨by decide, by decide⟩ (fun q1 => ?_)
  refine Z_putF (pc := 10) hC (q0 := 0) (ws' := [(h0, .inr (5, [.null, .null, .ref q1, .null])), (q1, .inl (C.cZ, 200, .inl (fun _ => 0)))]) hE.2.1 rfl fl_Ar_9 fp_Ar ff_Ar_2 rfl rfl (Nat.le_of_ble_eq_true rfl) rfl d_Ar_init_10 ?_
  refine Z_aload_n (pc := 13) hC d_Ar_init_13 rfl 0 rfl ?_
  refine Z_sipush (pc := 14) hC d_Ar_init_14 ks_200 ?_
  refine Z_newZ (pc := 17) hC (N := 200) rfl (by decide) d_Ar_init_17 ⟨by decide, by decide⟩ (fun q2 => ?_)
  refine Z_putF (pc := 19) hC (q0 := 0) (ws' := [(h0, .inr (5, [.null, .null, .ref q1, .ref q2])), (q1, .inl (C.cZ, 200, .inl (fun _ => 0))), (q2, .inl (C.cZ, 200, .inl (fun _ => 0)))]) hE.2.1 rfl fl_Ar_15 fp_Ar ff_Ar_3 rfl rfl (Nat.le_of_ble_eq_true rfl) rfl d_Ar_init_19 ?_
  refine Z_aload_n (pc := 22) hC d_Ar_init_22 rfl 0 rfl ?_
  refine Z_aload_n (pc := 23) hC d_Ar_init_23 rfl 1 rfl ?_
  refine Z_putF (pc := 24) hC (q0 := 0) (ws' := [(h0, .inr (5, [.ref u1, .null, .ref q1, .ref q2])), (q1, .inl (C.cZ, 200, .inl (fun _ => 0))), (q2, .inl (C.cZ, 200, .inl (fun _ => 0)))]) hE.2.1 rfl fl_Ar_18 fp_Ar ff_Ar_0 rfl rfl (Nat.le_of_ble_eq_true rfl) rfl d_Ar_init_24 ?_
  refine Z_aload_n (pc := 27) hC d_Ar_init_27 rfl 0 rfl ?_
  refine Z_aload_n (pc := 28) hC d_Ar_init_28 rfl 2 rfl ?_
  refine Z_putF (pc := 29) hC (q0 := 0) (ws' := [(h0, .inr (5, [.ref u1, .ref u2, .ref q1, .ref q2])), (q1, .inl (C.cZ, 200, .inl (fun _ => 0))), (q2, .inl (C.cZ, 200, .inl (fun _ => 0)))]) hE.2.1 rfl fl_Ar_22 fp_Ar ff_Ar_1 rfl rfl (Nat.le_of_ble_eq_true rfl) rfl d_Ar_init_29 ?_
  exact Z_vret (pc := 32) hC hE ⟨by decide, by decide⟩ d_Ar_init_32 ⟨q1, q2, rfl⟩
set_option maxHeartbeats 40000000 in
set_option maxRecDepth 100000 in
theorem k_Na (l : Launch) (D : va_G) (cI cZ : ClassId) (h0 : Nat) (u1 u2 : Nat) : KM l D cI cZ y_Na_init b_Na_init 3 rm_Na_init h0 (.inr (6, [.null, .null, .null, .null, .null, .int 0, .null, .null, .null])) [.ref u1, .ref u2] (fun _ => True) (fun w => ∃ q1 q2 q3 q4 q5 q6 : Nat, w = [(h0, .inr (6, [.ref u1, .ref u2, .ref q1, .ref q2, .ref q3, .int 0, .ref q4, .ref q5, .ref q6])), (q1, .inl (cI, 200, .inl (fun _ => 0))), (q2, .inl (cI, 200, .inl (fun _ => 0))), (q3, .inl (cI, 200, .inl (fun _ => 0))), (q4, .inl (cI, 400, .inl (fun _ => 0))), (q5, .inl (cI, 400, .inl (fun _ => 0))), (q6, .inl (cI, 400, .inl (fun _ => 0)))]) := by
  refine KM_of (by decide) rfl (Nat.le_of_ble_eq_true rfl) ?_
  intro C hl hDD hcI hcZ hC hE hX
  subst hl hDD hcI hcZ
  show Z C 3 0 0 0 [(0, .ref h0), (1, .ref u1), (2, .ref u2)] [] [(h0, .inr (6, [.null, .null, .null, .null, .null, .int 0, .null, .null, .null]))]
  refine Z_aload_n (pc := 0) hC d_Na_init_0 rfl 0 rfl ?_
  refine Z_objInit (pc := 1) hC mo_Na_3 d_Na_init_1 (by decide) ?_
  refine Z_aload_n (pc := 4) hC d_Na_init_4 rfl 0 rfl ?_
  refine Z_sipush (pc := 5) hC d_Na_init_5 ks_200 ?_
  refine Z_newI (pc := 8) hC (N := 200) rfl (by decide) d_Na_init_8 ⟨by decide, by decide⟩ (fun q1 => ?_)
  refine Z_putF (pc := 10) hC (q0 := 0) (ws' := [(h0, .inr (6, [.null, .null, .ref q1, .null, .null, .int 0, .null, .null, .null])), (q1, .inl (C.cI, 200, .inl (fun _ => 0)))]) hE.2.1 rfl fl_Na_9 fp_Na ff_Na_2 rfl rfl (Nat.le_of_ble_eq_true rfl) rfl d_Na_init_10 ?_
  refine Z_aload_n (pc := 13) hC d_Na_init_13 rfl 0 rfl ?_
  refine Z_sipush (pc := 14) hC d_Na_init_14 ks_200 ?_
  refine Z_newI (pc := 17) hC (N := 200) rfl (by decide) d_Na_init_17 ⟨by decide, by decide⟩ (fun q2 => ?_)
  refine Z_putF (pc := 19) hC (q0 := 0) (ws' := [(h0, .inr (6, [.null, .null, .ref q1, .ref q2, .null, .int 0, .null, .null, .null])), (q1, .inl (C.cI, 200, .inl (fun _ => 0))), (q2, .inl (C.cI, 200, .inl (fun _ => 0)))]) hE.2.1 rfl fl_Na_15 fp_Na ff_Na_3 rfl rfl (Nat.le_of_ble_eq_true rfl) rfl d_Na_init_19 ?_
  refine Z_aload_n (pc := 22) hC d_Na_init_22 rfl 0 rfl ?_
  refine Z_sipush (pc := 23) hC d_Na_init_23 ks_200 ?_
  refine Z_newI (pc := 26) hC (N := 200) rfl (by decide) d_Na_init_26 ⟨by decide, by decide⟩ (fun q3 => ?_)
  refine Z_putF (pc := 28) hC (q0 := 0) (ws' := [(h0, .inr (6, [.null, .null, .ref q1, .ref q2, .ref q3, .int 0, .null, .null, .null])), (q1, .inl (C.cI, 200, .inl (fun _ => 0))), (q2, .inl (C.cI, 200, .inl (fun _ => 0))), (q3, .inl (C.cI, 200, .inl (fun _ => 0)))]) hE.2.1 rfl fl_Na_18 fp_Na ff_Na_4 rfl rfl (Nat.le_of_ble_eq_true rfl) rfl d_Na_init_28 ?_
  refine Z_aload_n (pc := 31) hC d_Na_init_31 rfl 0 rfl ?_
  refine Z_sipush (pc := 32) hC d_Na_init_32 ks_400 ?_
  refine Z_newI (pc := 35) hC (N := 400) rfl (by decide) d_Na_init_35 ⟨by decide, by decide⟩ (fun q4 => ?_)
  refine Z_putF (pc := 37) hC (q0 := 0) (ws' := [(h0, .inr (6, [.null, .null, .ref q1, .ref q2, .ref q3, .int 0, .ref q4, .null, .null])), (q1, .inl (C.cI, 200, .inl (fun _ => 0))), (q2, .inl (C.cI, 200, .inl (fun _ => 0))), (q3, .inl (C.cI, 200, .inl (fun _ => 0))), (q4, .inl (C.cI, 400, .inl (fun _ => 0)))]) hE.2.1 rfl fl_Na_21 fp_Na ff_Na_6 rfl rfl (Nat.le_of_ble_eq_true rfl) rfl d_Na_init_37 ?_
  refine Z_aload_n (pc := 40) hC d_Na_init_40 rfl 0 rfl ?_
  refine Z_sipush (pc := 41) hC d_Na_init_41 ks_400 ?_
  refine Z_newI (pc := 44) hC (N := 400) rfl (by decide) d_Na_init_44 ⟨by decide, by decide⟩ (fun q5 => ?_)
  refine Z_putF (pc := 46) hC (q0 := 0) (ws' := [(h0, .inr (6, [.null, .null, .ref q1, .ref q2, .ref q3, .int 0, .ref q4, .ref q5, .null])), (q1, .inl (C.cI, 200, .inl (fun _ => 0))), (q2, .inl (C.cI, 200, .inl (fun _ => 0))), (q3, .inl (C.cI, 200, .inl (fun _ => 0))), (q4, .inl (C.cI, 400, .inl (fun _ => 0))), (q5, .inl (C.cI, 400, .inl (fun _ => 0)))]) hE.2.1 rfl fl_Na_24 fp_Na ff_Na_7 rfl rfl (Nat.le_of_ble_eq_true rfl) rfl d_Na_init_46 ?_
  refine Z_aload_n (pc := 49) hC d_Na_init_49 rfl 0 rfl ?_
  refine Z_sipush (pc := 50) hC d_Na_init_50 ks_400 ?_
  refine Z_newI (pc := 53) hC (N := 400) rfl (by decide) d_Na_init_53 ⟨by decide, by decide⟩ (fun q6 => ?_)
  refine Z_putF (pc := 55) hC (q0 := 0) (ws' := [(h0, .inr (6, [.null, .null, .ref q1, .ref q2, .ref q3, .int 0, .ref q4, .ref q5, .ref q6])), (q1, .inl (C.cI, 200, .inl (fun _ => 0))), (q2, .inl (C.cI, 200, .inl (fun _ => 0))), (q3, .inl (C.cI, 200, .inl (fun _ => 0))), (q4, .inl (C.cI, 400, .inl (fun _ => 0))), (q5, .inl (C.cI, 400, .inl (fun _ => 0))), (q6, .inl (C.cI, 400, .inl (fun _ => 0)))]) hE.2.1 rfl fl_Na_27 fp_Na ff_Na_8 rfl rfl (Nat.le_of_ble_eq_true rfl) rfl d_Na_init_55 ?_
  refine Z_aload_n (pc := 58) hC d_Na_init_58 rfl 0 rfl ?_
  refine Z_aload_n (pc := 59) hC d_Na_init_59 rfl 1 rfl ?_
  refine Z_putF (pc := 60) hC (q0 := 0) (ws' := [(h0, .inr (6, [.ref u1, .null, .ref q1, .ref q2, .ref q3, .int 0, .ref q4, .ref q5, .ref q6])), (q1, .inl (C.cI, 200, .inl (fun _ => 0))), (q2, .inl (C.cI, 200, .inl (fun _ => 0))), (q3, .inl (C.cI, 200, .inl (fun _ => 0))), (q4, .inl (C.cI, 400, .inl (fun _ => 0))), (q5, .inl (C.cI, 400, .inl (fun _ => 0))), (q6, .inl (C.cI, 400, .inl (fun _ => 0)))]) hE.2.1 rfl fl_Na_30 fp_Na ff_Na_0 rfl rfl (Nat.le_of_ble_eq_true rfl) rfl d_Na_init_60 ?_
  refine Z_aload_n (pc := 63) hC d_Na_init_63 rfl 0 rfl ?_
  refine Z_aload_n (pc := 64) hC d_Na_init_64 rfl 2 rfl ?_
  refine Z_putF (pc := 65) hC (q0 := 0) (ws' := [(h0, .inr (6, [.ref u1, .ref u2, .ref q1, .ref q2, .ref q3, .int 0, .ref q4, .ref q5, .ref q6])), (q1, .inl (C.cI, 200, .inl (fun _ => 0))), (q2, .inl (C.cI, 200, .inl (fun _ => 0))), (q3, .inl (C.cI, 200, .inl (fun _ => 0))), (q4, .inl (C.cI, 400, .inl (fun _ => 0))), (q5, .inl (C.cI, 400, .inl (fun _ => 0))), (q6, .inl (C.cI, 400, .inl (fun _ => 0)))]) hE.2.1 rfl fl_Na_34 fp_Na ff_Na_1 rfl rfl (Nat.le_of_ble_eq_true rfl) rfl d_Na_init_65 ?_
  exact Z_vret (pc := 68) hC hE ⟨by decide, by decide⟩ d_Na_init_68 ⟨q1, q2, q3, q4, q5, q6, rfl⟩
set_option maxHeartbeats 40000000 in
set_option maxRecDepth 100000 in
theorem k_Rc (l : Launch) (D : va_G) (cI cZ : ClassId) (h0 : Nat) (u1 u2 u3 u4 : Nat) : KM l D cI cZ y_Rc_init b_Rc_init 5 rm_Rc_init h0 (.inr (7, [.null, .null, .null, .null, .null, .null, .int 0, .null])) [.ref u1, .ref u2, .ref u3, .ref u4] (fun _ => True) (fun w => ∃ q1 q2 q3 : Nat, w = [(h0, .inr (7, [.ref u1, .ref u2, .ref u3, .ref u4, .ref q1, .ref q2, .int 0, .ref q3])), (q1, .inl (cZ, 96, .inl (fun _ => 0))), (q2, .inl (cZ, 200, .inl (fun _ => 0))), (q3, .inl (cI, 96, .inl (fun _ => 0)))]) := by
  refine KM_of (by decide) rfl (Nat.le_of_ble_eq_true rfl) ?_
  intro C hl hDD hcI hcZ hC hE hX
  subst hl hDD hcI hcZ
  show Z C 5 0 0 0 [(0, .ref h0), (1, .ref u1), (2, .ref u2), (3, .ref u3), (4, .ref u4)] [] [(h0, .inr (7, [.null, .null, .null, .null, .null, .null, .int 0, .null]))]
  refine Z_aload_n (pc := 0) hC d_Rc_init_0 rfl 0 rfl ?_
  refine Z_objInit (pc := 1) hC mo_Rc_3 d_Rc_init_1 (by decide) ?_
  refine Z_aload_n (pc := 4) hC d_Rc_init_4 rfl 0 rfl ?_
  refine Z_bipush (pc := 5) hC d_Rc_init_5 kb_96 ?_
  refine Z_newZ (pc := 7) hC (N := 96) rfl (by decide) d_Rc_init_7 ⟨by decide, by decide⟩ (fun q1 => ?_)
  refine Z_putF (pc := 9) hC (q0 := 0) (ws' := [(h0, .inr (7, [.null, .null, .null, .null, .ref q1, .null, .int 0, .null])), (q1, .inl (C.cZ, 96, .inl (fun _ => 0)))]) hE.2.1 rfl fl_Rc_9 fp_Rc ff_Rc_4 rfl rfl (Nat.le_of_ble_eq_true rfl) rfl d_Rc_init_9 ?_
  refine Z_aload_n (pc := 12) hC d_Rc_init_12 rfl 0 rfl ?_
  refine Z_sipush (pc := 13) hC d_Rc_init_13 ks_200 ?_
  refine Z_newZ (pc := 16) hC (N := 200) rfl (by decide) d_Rc_init_16 ⟨by decide, by decide⟩ (fun q2 => ?_)
  refine Z_putF (pc := 18) hC (q0 := 0) (ws' := [(h0, .inr (7, [.null, .null, .null, .null, .ref q1, .ref q2, .int 0, .null])), (q1, .inl (C.cZ, 96, .inl (fun _ => 0))), (q2, .inl (C.cZ, 200, .inl (fun _ => 0)))]) hE.2.1 rfl fl_Rc_15 fp_Rc ff_Rc_5 rfl rfl (Nat.le_of_ble_eq_true rfl) rfl d_Rc_init_18 ?_
  refine Z_aload_n (pc := 21) hC d_Rc_init_21 rfl 0 rfl ?_
  refine Z_bipush (pc := 22) hC d_Rc_init_22 kb_96 ?_
  refine Z_newI (pc := 24) hC (N := 96) rfl (by decide) d_Rc_init_24 ⟨by decide, by decide⟩ (fun q3 => ?_)
  refine Z_putF (pc := 26) hC (q0 := 0) (ws' := [(h0, .inr (7, [.null, .null, .null, .null, .ref q1, .ref q2, .int 0, .ref q3])), (q1, .inl (C.cZ, 96, .inl (fun _ => 0))), (q2, .inl (C.cZ, 200, .inl (fun _ => 0))), (q3, .inl (C.cI, 96, .inl (fun _ => 0)))]) hE.2.1 rfl fl_Rc_18 fp_Rc ff_Rc_7 rfl rfl (Nat.le_of_ble_eq_true rfl) rfl d_Rc_init_26 ?_
  refine Z_aload_n (pc := 29) hC d_Rc_init_29 rfl 0 rfl ?_
  refine Z_aload_n (pc := 30) hC d_Rc_init_30 rfl 1 rfl ?_
  refine Z_putF (pc := 31) hC (q0 := 0) (ws' := [(h0, .inr (7, [.ref u1, .null, .null, .null, .ref q1, .ref q2, .int 0, .ref q3])), (q1, .inl (C.cZ, 96, .inl (fun _ => 0))), (q2, .inl (C.cZ, 200, .inl (fun _ => 0))), (q3, .inl (C.cI, 96, .inl (fun _ => 0)))]) hE.2.1 rfl fl_Rc_22 fp_Rc ff_Rc_0 rfl rfl (Nat.le_of_ble_eq_true rfl) rfl d_Rc_init_31 ?_
  refine Z_aload_n (pc := 34) hC d_Rc_init_34 rfl 0 rfl ?_
  refine Z_aload_n (pc := 35) hC d_Rc_init_35 rfl 2 rfl ?_
  refine Z_putF (pc := 36) hC (q0 := 0) (ws' := [(h0, .inr (7, [.ref u1, .ref u2, .null, .null, .ref q1, .ref q2, .int 0, .ref q3])), (q1, .inl (C.cZ, 96, .inl (fun _ => 0))), (q2, .inl (C.cZ, 200, .inl (fun _ => 0))), (q3, .inl (C.cI, 96, .inl (fun _ => 0)))]) hE.2.1 rfl fl_Rc_26 fp_Rc ff_Rc_1 rfl rfl (Nat.le_of_ble_eq_true rfl) rfl d_Rc_init_36 ?_
  refine Z_aload_n (pc := 39) hC d_Rc_init_39 rfl 0 rfl ?_
  refine Z_aload_n (pc := 40) hC d_Rc_init_40 rfl 3 rfl ?_
  refine Z_putF (pc := 41) hC (q0 := 0) (ws' := [(h0, .inr (7, [.ref u1, .ref u2, .ref u3, .null, .ref q1, .ref q2, .int 0, .ref q3])), (q1, .inl (C.cZ, 96, .inl (fun _ => 0))), (q2, .inl (C.cZ, 200, .inl (fun _ => 0))), (q3, .inl (C.cI, 96, .inl (fun _ => 0)))]) hE.2.1 rfl fl_Rc_30 fp_Rc ff_Rc_2 rfl rfl (Nat.le_of_ble_eq_true rfl) rfl d_Rc_init_41 ?_
  refine Z_aload_n (pc := 44) hC d_Rc_init_44 rfl 0 rfl ?_
  refine Z_aload (pc := 45) hC d_Rc_init_45 4 rfl ?_
  refine Z_putF (pc := 47) hC (q0 := 0) (ws' := [(h0, .inr (7, [.ref u1, .ref u2, .ref u3, .ref u4, .ref q1, .ref q2, .int 0, .ref q3])), (q1, .inl (C.cZ, 96, .inl (fun _ => 0))), (q2, .inl (C.cZ, 200, .inl (fun _ => 0))), (q3, .inl (C.cI, 96, .inl (fun _ => 0)))]) hE.2.1 rfl fl_Rc_34 fp_Rc ff_Rc_3 rfl rfl (Nat.le_of_ble_eq_true rfl) rfl d_Rc_init_47 ?_
  exact Z_vret (pc := 50) hC hE ⟨by decide, by decide⟩ d_Rc_init_50 ⟨q1, q2, q3, rfl⟩
set_option maxHeartbeats 40000000 in
set_option maxRecDepth 100000 in
theorem k_Fo (l : Launch) (D : va_G) (cI cZ : ClassId) (h0 : Nat) (u1 u2 u3 u4 : Nat) : KM l D cI cZ y_Fo_init b_Fo_init 5 rm_Fo_init h0 (.inr (8, [.null, .null, .null, .null, .null, .null])) [.ref u1, .ref u2, .ref u3, .ref u4] (fun _ => True) (fun w => ∃ q1 q2 : Nat, w = [(h0, .inr (8, [.ref u1, .ref u2, .ref u3, .ref u4, .ref q1, .ref q2])), (q1, .inl (cI, 96, .inl (fun _ => 0))), (q2, .inl (cI, 96, .inl (fun _ => 0)))]) := by
  refine KM_of (by decide) rfl (Nat.le_of_ble_eq_true rfl) ?_
  intro C hl hDD hcI hcZ hC hE hX
  subst hl hDD hcI hcZ
  show Z C 5 0 0 0 [(0, .ref h0), (1, .ref u1), (2, .ref u2), (3, .ref u3), (4, .ref u4)] [] [(h0, .inr (8, [.null, .null, .null, .null, .null, .null]))]
  refine Z_aload_n (pc := 0) hC d_Fo_init_0 rfl 0 rfl ?_
  refine Z_objInit (pc := 1) hC mo_Fo_3 d_Fo_init_1 (by decide) ?_
  refine Z_aload_n (pc := 4) hC d_Fo_init_4 rfl 0 rfl ?_
  refine Z_bipush (pc := 5) hC d_Fo_init_5 kb_96 ?_
  refine Z_newI (pc := 7) hC (N := 96) rfl (by decide) d_Fo_init_7 ⟨by decide, by decide⟩ (fun q1 => ?_)
  refine Z_putF (pc := 9) hC (q0 := 0) (ws' := [(h0, .inr (8, [.null, .null, .null, .null, .ref q1, .null])), (q1, .inl (C.cI, 96, .inl (fun _ => 0)))]) hE.2.1 rfl fl_Fo_9 fp_Fo ff_Fo_4 rfl rfl (Nat.le_of_ble_eq_true rfl) rfl d_Fo_init_9 ?_
  refine Z_aload_n (pc := 12) hC d_Fo_init_12 rfl 0 rfl ?_
  refine Z_bipush (pc := 13) hC d_Fo_init_13 kb_96 ?_
  refine Z_newI (pc := 15) hC (N := 96) rfl (by decide) d_Fo_init_15 ⟨by decide, by decide⟩ (fun q2 => ?_)
  refine Z_putF (pc := 17) hC (q0 := 0) (ws' := [(h0, .inr (8, [.null, .null, .null, .null, .ref q1, .ref q2])), (q1, .inl (C.cI, 96, .inl (fun _ => 0))), (q2, .inl (C.cI, 96, .inl (fun _ => 0)))]) hE.2.1 rfl fl_Fo_15 fp_Fo ff_Fo_5 rfl rfl (Nat.le_of_ble_eq_true rfl) rfl d_Fo_init_17 ?_
  refine Z_aload_n (pc := 20) hC d_Fo_init_20 rfl 0 rfl ?_
  refine Z_aload_n (pc := 21) hC d_Fo_init_21 rfl 1 rfl ?_
  refine Z_putF (pc := 22) hC (q0 := 0) (ws' := [(h0, .inr (8, [.ref u1, .null, .null, .null, .ref q1, .ref q2])), (q1, .inl (C.cI, 96, .inl (fun _ => 0))), (q2, .inl (C.cI, 96, .inl (fun _ => 0)))]) hE.2.1 rfl fl_Fo_18 fp_Fo ff_Fo_0 rfl rfl (Nat.le_of_ble_eq_true rfl) rfl d_Fo_init_22 ?_
  refine Z_aload_n (pc := 25) hC d_Fo_init_25 rfl 0 rfl ?_
  refine Z_aload_n (pc := 26) hC d_Fo_init_26 rfl 2 rfl ?_
  refine Z_putF (pc := 27) hC (q0 := 0) (ws' := [(h0, .inr (8, [.ref u1, .ref u2, .null, .null, .ref q1, .ref q2])), (q1, .inl (C.cI, 96, .inl (fun _ => 0))), (q2, .inl (C.cI, 96, .inl (fun _ => 0)))]) hE.2.1 rfl fl_Fo_22 fp_Fo ff_Fo_1 rfl rfl (Nat.le_of_ble_eq_true rfl) rfl d_Fo_init_27 ?_
  refine Z_aload_n (pc := 30) hC d_Fo_init_30 rfl 0 rfl ?_
  refine Z_aload_n (pc := 31) hC d_Fo_init_31 rfl 3 rfl ?_
  refine Z_putF (pc := 32) hC (q0 := 0) (ws' := [(h0, .inr (8, [.ref u1, .ref u2, .ref u3, .null, .ref q1, .ref q2])), (q1, .inl (C.cI, 96, .inl (fun _ => 0))), (q2, .inl (C.cI, 96, .inl (fun _ => 0)))]) hE.2.1 rfl fl_Fo_26 fp_Fo ff_Fo_2 rfl rfl (Nat.le_of_ble_eq_true rfl) rfl d_Fo_init_32 ?_
  refine Z_aload_n (pc := 35) hC d_Fo_init_35 rfl 0 rfl ?_
  refine Z_aload (pc := 36) hC d_Fo_init_36 4 rfl ?_
  refine Z_putF (pc := 38) hC (q0 := 0) (ws' := [(h0, .inr (8, [.ref u1, .ref u2, .ref u3, .ref u4, .ref q1, .ref q2])), (q1, .inl (C.cI, 96, .inl (fun _ => 0))), (q2, .inl (C.cI, 96, .inl (fun _ => 0)))]) hE.2.1 rfl fl_Fo_30 fp_Fo ff_Fo_3 rfl rfl (Nat.le_of_ble_eq_true rfl) rfl d_Fo_init_38 ?_
  exact Z_vret (pc := 41) hC hE ⟨by decide, by decide⟩ d_Fo_init_41 ⟨q1, q2, rfl⟩
set_option maxHeartbeats 40000000 in
set_option maxRecDepth 100000 in
theorem k_La (l : Launch) (D : va_G) (cI cZ : ClassId) (h0 : Nat) (u1 u2 u3 u4 : Nat) : KM l D cI cZ y_La_init b_La_init 5 rm_La_init h0 (.inr (9, [.null, .null, .null, .null, .int 0, .int 0, .int 0, .int 0, .null, .null])) [.ref u1, .ref u2, .ref u3, .ref u4] (fun _ => True) (fun w => ∃ q1 q2 : Nat, w = [(h0, .inr (9, [.ref u1, .ref u2, .ref u3, .ref u4, .int 0, .int 0, .int 0, .int 0, .ref q1, .ref q2])), (q1, .inl (cI, 96, .inl (fun _ => 0))), (q2, .inl (cI, 200, .inl (fun _ => 0)))]) := by
  refine KM_of (by decide) rfl (Nat.le_of_ble_eq_true rfl) ?_
  intro C hl hDD hcI hcZ hC hE hX
  subst hl hDD hcI hcZ
  show Z C 5 0 0 0 [(0, .ref h0), (1, .ref u1), (2, .ref u2), (3, .ref u3), (4, .ref u4)] [] [(h0, .inr (9, [.null, .null, .null, .null, .int 0, .int 0, .int 0, .int 0, .null, .null]))]
  refine Z_aload_n (pc := 0) hC d_La_init_0 rfl 0 rfl ?_
  refine Z_objInit (pc := 1) hC mo_La_3 d_La_init_1 (by decide) ?_
  refine Z_aload_n (pc := 4) hC d_La_init_4 rfl 0 rfl ?_
  refine Z_bipush (pc := 5) hC d_La_init_5 kb_96 ?_
  refine Z_newI (pc := 7) hC (N := 96) rfl (by decide) d_La_init_7 ⟨by decide, by decide⟩ (fun q1 => ?_)
  refine Z_putF (pc := 9) hC (q0 := 0) (ws' := [(h0, .inr (9, [.null, .null, .null, .null, .int 0, .int 0, .int 0, .int 0, .ref q1, .null])), (q1, .inl (C.cI, 96, .inl (fun _ => 0)))]) hE.2.1 rfl fl_La_9 fp_La ff_La_8 rfl rfl (Nat.le_of_ble_eq_true rfl) rfl d_La_init_9 ?_
  refine Z_aload_n (pc := 12) hC d_La_init_12 rfl 0 rfl ?_
  refine Z_sipush (pc := 13) hC d_La_init_13 ks_200 ?_
  refine Z_newI (pc := 16) hC (N := 200) rfl (by decide) d_La_init_16 ⟨by decide, by decide⟩ (fun q2 => ?_)
  refine Z_putF (pc := 18) hC (q0 := 0) (ws' := [(h0, .inr (9, [.null, .null, .null, .null, .int 0, .int 0, .int 0, .int 0, .ref q1, .ref q2])), (q1, .inl (C.cI, 96, .inl (fun _ => 0))), (q2, .inl (C.cI, 200, .inl (fun _ => 0)))]) hE.2.1 rfl fl_La_15 fp_La ff_La_9 rfl rfl (Nat.le_of_ble_eq_true rfl) rfl d_La_init_18 ?_
  refine Z_aload_n (pc := 21) hC d_La_init_21 rfl 0 rfl ?_
  refine Z_aload_n (pc := 22) hC d_La_init_22 rfl 1 rfl ?_
  refine Z_putF (pc := 23) hC (q0 := 0) (ws' := [(h0, .inr (9, [.ref u1, .null, .null, .null, .int 0, .int 0, .int 0, .int 0, .ref q1, .ref q2])), (q1, .inl (C.cI, 96, .inl (fun _ => 0))), (q2, .inl (C.cI, 200, .inl (fun _ => 0)))]) hE.2.1 rfl fl_La_18 fp_La ff_La_0 rfl rfl (Nat.le_of_ble_eq_true rfl) rfl d_La_init_23 ?_
  refine Z_aload_n (pc := 26) hC d_La_init_26 rfl 0 rfl ?_
  refine Z_aload_n (pc := 27) hC d_La_init_27 rfl 2 rfl ?_
  refine Z_putF (pc := 28) hC (q0 := 0) (ws' := [(h0, .inr (9, [.ref u1, .ref u2, .null, .null, .int 0, .int 0, .int 0, .int 0, .ref q1, .ref q2])), (q1, .inl (C.cI, 96, .inl (fun _ => 0))), (q2, .inl (C.cI, 200, .inl (fun _ => 0)))]) hE.2.1 rfl fl_La_22 fp_La ff_La_1 rfl rfl (Nat.le_of_ble_eq_true rfl) rfl d_La_init_28 ?_
  refine Z_aload_n (pc := 31) hC d_La_init_31 rfl 0 rfl ?_
  refine Z_aload_n (pc := 32) hC d_La_init_32 rfl 3 rfl ?_
  refine Z_putF (pc := 33) hC (q0 := 0) (ws' := [(h0, .inr (9, [.ref u1, .ref u2, .ref u3, .null, .int 0, .int 0, .int 0, .int 0, .ref q1, .ref q2])), (q1, .inl (C.cI, 96, .inl (fun _ => 0))), (q2, .inl (C.cI, 200, .inl (fun _ => 0)))]) hE.2.1 rfl fl_La_26 fp_La ff_La_2 rfl rfl (Nat.le_of_ble_eq_true rfl) rfl d_La_init_33 ?_
  refine Z_aload_n (pc := 36) hC d_La_init_36 rfl 0 rfl ?_
  refine Z_aload (pc := 37) hC d_La_init_37 4 rfl ?_
  refine Z_putF (pc := 39) hC (q0 := 0) (ws' := [(h0, .inr (9, [.ref u1, .ref u2, .ref u3, .ref u4, .int 0, .int 0, .int 0, .int 0, .ref q1, .ref q2])), (q1, .inl (C.cI, 96, .inl (fun _ => 0))), (q2, .inl (C.cI, 200, .inl (fun _ => 0)))]) hE.2.1 rfl fl_La_30 fp_La ff_La_3 rfl rfl (Nat.le_of_ble_eq_true rfl) rfl d_La_init_39 ?_
  exact Z_vret (pc := 42) hC hE ⟨by decide, by decide⟩ d_La_init_42 ⟨q1, q2, rfl⟩
set_option maxHeartbeats 40000000 in
set_option maxRecDepth 100000 in
theorem k_Is (l : Launch) (D : va_G) (cI cZ : ClassId) (h0 : Nat) (u1 u2 u3 u4 u5 : Nat) : KM l D cI cZ y_Is_init b_Is_init 6 rm_Is_init h0 (.inr (10, [.null, .null, .null, .null, .null, .int 0, .int 0, .null, .null, .null, .null])) [.ref u1, .ref u2, .ref u3, .ref u4, .ref u5] (fun _ => True) (fun w => ∃ q1 q2 q3 q4 : Nat, w = [(h0, .inr (10, [.ref u1, .ref u2, .ref u3, .ref u4, .ref u5, .int 0, .int 0, .ref q1, .ref q2, .ref q3, .ref q4])), (q1, .inl (cI, 32, .inl (fun _ => 0))), (q2, .inl (cI, 32, .inl (fun _ => 0))), (q3, .inl (cI, 32, .inl (fun _ => 0))), (q4, .inl (cI, 600, .inl (fun _ => 0)))]) := by
  refine KM_of (by decide) rfl (Nat.le_of_ble_eq_true rfl) ?_
  intro C hl hDD hcI hcZ hC hE hX
  subst hl hDD hcI hcZ
  show Z C 6 0 0 0 [(0, .ref h0), (1, .ref u1), (2, .ref u2), (3, .ref u3), (4, .ref u4), (5, .ref u5)] [] [(h0, .inr (10, [.null, .null, .null, .null, .null, .int 0, .int 0, .null, .null, .null, .null]))]
  refine Z_aload_n (pc := 0) hC d_Is_init_0 rfl 0 rfl ?_
  refine Z_objInit (pc := 1) hC mo_Is_3 d_Is_init_1 (by decide) ?_
  refine Z_aload_n (pc := 4) hC d_Is_init_4 rfl 0 rfl ?_
  refine Z_bipush (pc := 5) hC d_Is_init_5 kb_32 ?_
  refine Z_newI (pc := 7) hC (N := 32) rfl (by decide) d_Is_init_7 ⟨by decide, by decide⟩ (fun q1 => ?_)
  refine Z_putF (pc := 9) hC (q0 := 0) (ws' := [(h0, .inr (10, [.null, .null, .null, .null, .null, .int 0, .int 0, .ref q1, .null, .null, .null])), (q1, .inl (C.cI, 32, .inl (fun _ => 0)))]) hE.2.1 rfl fl_Is_9 fp_Is ff_Is_7 rfl rfl (Nat.le_of_ble_eq_true rfl) rfl d_Is_init_9 ?_
  refine Z_aload_n (pc := 12) hC d_Is_init_12 rfl 0 rfl ?_
  refine Z_bipush (pc := 13) hC d_Is_init_13 kb_32 ?_
  refine Z_newI (pc := 15) hC (N := 32) rfl (by decide) d_Is_init_15 ⟨by decide, by decide⟩ (fun q2 => ?_)
  refine Z_putF (pc := 17) hC (q0 := 0) (ws' := [(h0, .inr (10, [.null, .null, .null, .null, .null, .int 0, .int 0, .ref q1, .ref q2, .null, .null])), (q1, .inl (C.cI, 32, .inl (fun _ => 0))), (q2, .inl (C.cI, 32, .inl (fun _ => 0)))]) hE.2.1 rfl fl_Is_15 fp_Is ff_Is_8 rfl rfl (Nat.le_of_ble_eq_true rfl) rfl d_Is_init_17 ?_
  refine Z_aload_n (pc := 20) hC d_Is_init_20 rfl 0 rfl ?_
  refine Z_bipush (pc := 21) hC d_Is_init_21 kb_32 ?_
  refine Z_newI (pc := 23) hC (N := 32) rfl (by decide) d_Is_init_23 ⟨by decide, by decide⟩ (fun q3 => ?_)
  refine Z_putF (pc := 25) hC (q0 := 0) (ws' := [(h0, .inr (10, [.null, .null, .null, .null, .null, .int 0, .int 0, .ref q1, .ref q2, .ref q3, .null])), (q1, .inl (C.cI, 32, .inl (fun _ => 0))), (q2, .inl (C.cI, 32, .inl (fun _ => 0))), (q3, .inl (C.cI, 32, .inl (fun _ => 0)))]) hE.2.1 rfl fl_Is_18 fp_Is ff_Is_9 rfl rfl (Nat.le_of_ble_eq_true rfl) rfl d_Is_init_25 ?_
  refine Z_aload_n (pc := 28) hC d_Is_init_28 rfl 0 rfl ?_
  refine Z_sipush (pc := 29) hC d_Is_init_29 ks_600 ?_
  refine Z_newI (pc := 32) hC (N := 600) rfl (by decide) d_Is_init_32 ⟨by decide, by decide⟩ (fun q4 => ?_)
  refine Z_putF (pc := 34) hC (q0 := 0) (ws' := [(h0, .inr (10, [.null, .null, .null, .null, .null, .int 0, .int 0, .ref q1, .ref q2, .ref q3, .ref q4])), (q1, .inl (C.cI, 32, .inl (fun _ => 0))), (q2, .inl (C.cI, 32, .inl (fun _ => 0))), (q3, .inl (C.cI, 32, .inl (fun _ => 0))), (q4, .inl (C.cI, 600, .inl (fun _ => 0)))]) hE.2.1 rfl fl_Is_21 fp_Is ff_Is_10 rfl rfl (Nat.le_of_ble_eq_true rfl) rfl d_Is_init_34 ?_
  refine Z_aload_n (pc := 37) hC d_Is_init_37 rfl 0 rfl ?_
  refine Z_aload_n (pc := 38) hC d_Is_init_38 rfl 1 rfl ?_
  refine Z_putF (pc := 39) hC (q0 := 0) (ws' := [(h0, .inr (10, [.ref u1, .null, .null, .null, .null, .int 0, .int 0, .ref q1, .ref q2, .ref q3, .ref q4])), (q1, .inl (C.cI, 32, .inl (fun _ => 0))), (q2, .inl (C.cI, 32, .inl (fun _ => 0))), (q3, .inl (C.cI, 32, .inl (fun _ => 0))), (q4, .inl (C.cI, 600, .inl (fun _ => 0)))]) hE.2.1 rfl fl_Is_24 fp_Is ff_Is_0 rfl rfl (Nat.le_of_ble_eq_true rfl) rfl d_Is_init_39 ?_
  refine Z_aload_n (pc := 42) hC d_Is_init_42 rfl 0 rfl ?_
  refine Z_aload_n (pc := 43) hC d_Is_init_43 rfl 2 rfl ?_
  refine Z_putF (pc := 44) hC (q0 := 0) (ws' := [(h0, .inr (10, [.ref u1, .ref u2, .null, .null, .null, .int 0, .int 0, .ref q1, .ref q2, .ref q3, .ref q4])), (q1, .inl (C.cI, 32, .inl (fun _ => 0))), (q2, .inl (C.cI, 32, .inl (fun _ => 0))), (q3, .inl (C.cI, 32, .inl (fun _ => 0))), (q4, .inl (C.cI, 600, .inl (fun _ => 0)))]) hE.2.1 rfl fl_Is_28 fp_Is ff_Is_1 rfl rfl (Nat.le_of_ble_eq_true rfl) rfl d_Is_init_44 ?_
  refine Z_aload_n (pc := 47) hC d_Is_init_47 rfl 0 rfl ?_
  refine Z_aload_n (pc := 48) hC d_Is_init_48 rfl 3 rfl ?_
  refine Z_putF (pc := 49) hC (q0 := 0) (ws' := [(h0, .inr (10, [.ref u1, .ref u2, .ref u3, .null, .null, .int 0, .int 0, .ref q1, .ref q2, .ref q3, .ref q4])), (q1, .inl (C.cI, 32, .inl (fun _ => 0))), (q2, .inl (C.cI, 32, .inl (fun _ => 0))), (q3, .inl (C.cI, 32, .inl (fun _ => 0))), (q4, .inl (C.cI, 600, .inl (fun _ => 0)))]) hE.2.1 rfl fl_Is_32 fp_Is ff_Is_2 rfl rfl (Nat.le_of_ble_eq_true rfl) rfl d_Is_init_49 ?_
  refine Z_aload_n (pc := 52) hC d_Is_init_52 rfl 0 rfl ?_
  refine Z_aload (pc := 53) hC d_Is_init_53 4 rfl ?_
  refine Z_putF (pc := 55) hC (q0 := 0) (ws' := [(h0, .inr (10, [.ref u1, .ref u2, .ref u3, .ref u4, .null, .int 0, .int 0, .ref q1, .ref q2, .ref q3, .ref q4])), (q1, .inl (C.cI, 32, .inl (fun _ => 0))), (q2, .inl (C.cI, 32, .inl (fun _ => 0))), (q3, .inl (C.cI, 32, .inl (fun _ => 0))), (q4, .inl (C.cI, 600, .inl (fun _ => 0)))]) hE.2.1 rfl fl_Is_36 fp_Is ff_Is_3 rfl rfl (Nat.le_of_ble_eq_true rfl) rfl d_Is_init_55 ?_
  refine Z_aload_n (pc := 58) hC d_Is_init_58 rfl 0 rfl ?_
  refine Z_aload (pc := 59) hC d_Is_init_59 5 rfl ?_
  refine Z_putF (pc := 61) hC (q0 := 0) (ws' := [(h0, .inr (10, [.ref u1, .ref u2, .ref u3, .ref u4, .ref u5, .int 0, .int 0, .ref q1, .ref q2, .ref q3, .ref q4])), (q1, .inl (C.cI, 32, .inl (fun _ => 0))), (q2, .inl (C.cI, 32, .inl (fun _ => 0))), (q3, .inl (C.cI, 32, .inl (fun _ => 0))), (q4, .inl (C.cI, 600, .inl (fun _ => 0)))]) hE.2.1 rfl fl_Is_40 fp_Is ff_Is_4 rfl rfl (Nat.le_of_ble_eq_true rfl) rfl d_Is_init_61 ?_
  exact Z_vret (pc := 64) hC hE ⟨by decide, by decide⟩ d_Is_init_64 ⟨q1, q2, q3, q4, rfl⟩
set_option maxHeartbeats 40000000 in
set_option maxRecDepth 100000 in
theorem k_Me (l : Launch) (D : va_G) (cI cZ : ClassId) (h0 : Nat) (u1 u2 u3 u4 : Nat) : KM l D cI cZ y_Me_init b_Me_init 5 rm_Me_init h0 (.inr (11, [.null, .null, .null, .null])) [.ref u1, .ref u2, .ref u3, .ref u4] (fun _ => True) (fun w => w = [(h0, .inr (11, [.ref u1, .ref u2, .ref u3, .ref u4]))]) := by
  refine KM_of (by decide) rfl (Nat.le_of_ble_eq_true rfl) ?_
  intro C hl hDD hcI hcZ hC hE hX
  subst hl hDD hcI hcZ
  show Z C 5 0 0 0 [(0, .ref h0), (1, .ref u1), (2, .ref u2), (3, .ref u3), (4, .ref u4)] [] [(h0, .inr (11, [.null, .null, .null, .null]))]
  refine Z_aload_n (pc := 0) hC d_Me_init_0 rfl 0 rfl ?_
  refine Z_objInit (pc := 1) hC mo_Me_3 d_Me_init_1 (by decide) ?_
  refine Z_aload_n (pc := 4) hC d_Me_init_4 rfl 0 rfl ?_
  refine Z_aload_n (pc := 5) hC d_Me_init_5 rfl 1 rfl ?_
  refine Z_putF (pc := 6) hC (q0 := 0) (ws' := [(h0, .inr (11, [.ref u1, .null, .null, .null]))]) hE.2.1 rfl fl_Me_9 fp_Me ff_Me_0 rfl rfl (Nat.le_of_ble_eq_true rfl) rfl d_Me_init_6 ?_
  refine Z_aload_n (pc := 9) hC d_Me_init_9 rfl 0 rfl ?_
  refine Z_aload_n (pc := 10) hC d_Me_init_10 rfl 2 rfl ?_
  refine Z_putF (pc := 11) hC (q0 := 0) (ws' := [(h0, .inr (11, [.ref u1, .ref u2, .null, .null]))]) hE.2.1 rfl fl_Me_15 fp_Me ff_Me_1 rfl rfl (Nat.le_of_ble_eq_true rfl) rfl d_Me_init_11 ?_
  refine Z_aload_n (pc := 14) hC d_Me_init_14 rfl 0 rfl ?_
  refine Z_aload_n (pc := 15) hC d_Me_init_15 rfl 3 rfl ?_
  refine Z_putF (pc := 16) hC (q0 := 0) (ws' := [(h0, .inr (11, [.ref u1, .ref u2, .ref u3, .null]))]) hE.2.1 rfl fl_Me_19 fp_Me ff_Me_2 rfl rfl (Nat.le_of_ble_eq_true rfl) rfl d_Me_init_16 ?_
  refine Z_aload_n (pc := 19) hC d_Me_init_19 rfl 0 rfl ?_
  refine Z_aload (pc := 20) hC d_Me_init_20 4 rfl ?_
  refine Z_putF (pc := 22) hC (q0 := 0) (ws' := [(h0, .inr (11, [.ref u1, .ref u2, .ref u3, .ref u4]))]) hE.2.1 rfl fl_Me_23 fp_Me ff_Me_3 rfl rfl (Nat.le_of_ble_eq_true rfl) rfl d_Me_init_22 ?_
  exact Z_vret (pc := 25) hC hE ⟨by decide, by decide⟩ d_Me_init_25 rfl
