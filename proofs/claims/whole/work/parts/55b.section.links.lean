theorem ml_Ly_140 : MLb R_Ly 140 y_Ly_isAlignment b_Ly_isAlignment 1 (some .boolean) 1 := ⟨(mw 726 (by decide +kernel)), (mw 724 (by decide +kernel)), (mw 83 (by decide +kernel)), by decide +kernel⟩
theorem ms_Ly_isAlignment : Cond.static y_Ly_isAlignment ∈ ALLW := (mw 725 (by decide +kernel))
theorem kc_Ly_146 : Cond.constant R_Ly 146 400000 ∈ ALLW := (mw 734 (by decide +kernel))
theorem fl_Ly_147 : FL R_Ly 147 2 1 := ⟨R_Se, F_Se, N_Se, rfl, by decide, i_Se, (mw 159 (by decide +kernel))⟩
theorem ml_Ly_152 : MLb R_Ly 152 y_Se_add b_Se_add 5 (some .int) 4 := ⟨(mw 739 (by decide +kernel)), (mw 736 (by decide +kernel)), (mw 85 (by decide +kernel)), by decide +kernel⟩
theorem mv_Se_add : MLv y_Se_add := ⟨(mw 737 (by decide +kernel)), (mw 738 (by decide +kernel))⟩
theorem d_Ly_section_0 : decode b_Ly_section 0 = .ok (.aload_n 0, 1) := by decide +kernel
theorem d_Ly_section_1 : decode b_Ly_section 1 = .ok (.getfield 10, 3) := by decide +kernel
theorem d_Ly_section_4 : decode b_Ly_section 4 = .ok (.iload_n 1, 1) := by decide +kernel
theorem d_Ly_section_5 : decode b_Ly_section 5 = .ok (.invokevirtual 130, 3) := by decide +kernel
theorem d_Ly_section_8 : decode b_Ly_section 8 = .ok (.ifCond .eq 12, 3) := by decide +kernel
theorem d_Ly_section_11 : decode b_Ly_section 11 = .ok (.iload_n 2, 1) := by decide +kernel
theorem d_Ly_section_12 : decode b_Ly_section 12 = .ok (.ifCond .lt 8, 3) := by decide +kernel
theorem d_Ly_section_15 : decode b_Ly_section 15 = .ok (.iload_n 2, 1) := by decide +kernel
theorem d_Ly_section_16 : decode b_Ly_section 16 = .ok (.iconst 2, 1) := by decide +kernel
theorem d_Ly_section_17 : decode b_Ly_section 17 = .ok (.if_icmp .le 13, 3) := by decide +kernel
theorem d_Ly_section_20 : decode b_Ly_section 20 = .ok (.new 108, 3) := by decide +kernel
theorem d_Ly_section_23 : decode b_Ly_section 23 = .ok (.dup, 1) := by decide +kernel
theorem d_Ly_section_24 : decode b_Ly_section 24 = .ok (.ldc 134, 2) := by decide +kernel
theorem d_Ly_section_26 : decode b_Ly_section 26 = .ok (.invokespecial 112, 3) := by decide +kernel
theorem d_Ly_section_29 : decode b_Ly_section 29 = .ok (.athrow, 1) := by decide +kernel
theorem d_Ly_section_30 : decode b_Ly_section 30 = .ok (.iload_n 3, 1) := by decide +kernel
theorem d_Ly_section_31 : decode b_Ly_section 31 = .ok (.iconst 0, 1) := by decide +kernel
theorem d_Ly_section_32 : decode b_Ly_section 32 = .ok (.invokestatic 136, 3) := by decide +kernel
theorem d_Ly_section_35 : decode b_Ly_section 35 = .ok (.ifCond .eq 11, 3) := by decide +kernel
theorem d_Ly_section_38 : decode b_Ly_section 38 = .ok (.iload 4, 2) := by decide +kernel
theorem d_Ly_section_40 : decode b_Ly_section 40 = .ok (.invokestatic 140, 3) := by decide +kernel
theorem d_Ly_section_43 : decode b_Ly_section 43 = .ok (.ifCond .ne 13, 3) := by decide +kernel
theorem d_Ly_section_46 : decode b_Ly_section 46 = .ok (.new 108, 3) := by decide +kernel
theorem d_Ly_section_49 : decode b_Ly_section 49 = .ok (.dup, 1) := by decide +kernel
theorem d_Ly_section_50 : decode b_Ly_section 50 = .ok (.ldc 143, 2) := by decide +kernel
theorem d_Ly_section_52 : decode b_Ly_section 52 = .ok (.invokespecial 112, 3) := by decide +kernel
theorem d_Ly_section_55 : decode b_Ly_section 55 = .ok (.athrow, 1) := by decide +kernel
theorem d_Ly_section_56 : decode b_Ly_section 56 = .ok (.aload_n 0, 1) := by decide +kernel
theorem d_Ly_section_57 : decode b_Ly_section 57 = .ok (.getfield 19, 3) := by decide +kernel
theorem d_Ly_section_60 : decode b_Ly_section 60 = .ok (.getfield 145, 3) := by decide +kernel
theorem d_Ly_section_63 : decode b_Ly_section 63 = .ok (.bipush 96, 2) := by decide +kernel
theorem d_Ly_section_65 : decode b_Ly_section 65 = .ok (.if_icmp .ge 17, 3) := by decide +kernel
theorem d_Ly_section_68 : decode b_Ly_section 68 = .ok (.iload_n 3, 1) := by decide +kernel
theorem d_Ly_section_69 : decode b_Ly_section 69 = .ok (.ldc 146, 2) := by decide +kernel
theorem d_Ly_section_71 : decode b_Ly_section 71 = .ok (.aload_n 0, 1) := by decide +kernel
theorem d_Ly_section_72 : decode b_Ly_section 72 = .ok (.getfield 19, 3) := by decide +kernel
theorem d_Ly_section_75 : decode b_Ly_section 75 = .ok (.getfield 147, 3) := by decide +kernel
theorem d_Ly_section_78 : decode b_Ly_section 78 = .ok (.isub, 1) := by decide +kernel
theorem d_Ly_section_79 : decode b_Ly_section 79 = .ok (.if_icmp .le 13, 3) := by decide +kernel
theorem d_Ly_section_82 : decode b_Ly_section 82 = .ok (.new 118, 3) := by decide +kernel
theorem d_Ly_section_85 : decode b_Ly_section 85 = .ok (.dup, 1) := by decide +kernel
theorem d_Ly_section_86 : decode b_Ly_section 86 = .ok (.ldc 150, 2) := by decide +kernel
theorem d_Ly_section_88 : decode b_Ly_section 88 = .ok (.invokespecial 122, 3) := by decide +kernel
theorem d_Ly_section_91 : decode b_Ly_section 91 = .ok (.athrow, 1) := by decide +kernel
theorem d_Ly_section_92 : decode b_Ly_section 92 = .ok (.aload_n 0, 1) := by decide +kernel
theorem d_Ly_section_93 : decode b_Ly_section 93 = .ok (.invokevirtual 123, 3) := by decide +kernel
theorem d_Ly_section_96 : decode b_Ly_section 96 = .ok (.aload_n 0, 1) := by decide +kernel
theorem d_Ly_section_97 : decode b_Ly_section 97 = .ok (.getfield 19, 3) := by decide +kernel
theorem d_Ly_section_100 : decode b_Ly_section 100 = .ok (.iload_n 1, 1) := by decide +kernel
theorem d_Ly_section_101 : decode b_Ly_section 101 = .ok (.iload_n 2, 1) := by decide +kernel
theorem d_Ly_section_102 : decode b_Ly_section 102 = .ok (.iload_n 3, 1) := by decide +kernel
theorem d_Ly_section_103 : decode b_Ly_section 103 = .ok (.iload 4, 2) := by decide +kernel
theorem d_Ly_section_105 : decode b_Ly_section 105 = .ok (.invokevirtual 152, 3) := by decide +kernel
theorem d_Ly_section_108 : decode b_Ly_section 108 = .ok (.ireturn, 1) := by decide +kernel
