theorem fl_Se_15 : FL R_Se 15 2 4 := ⟨R_Se, F_Se, N_Se, rfl, by decide, i_Se, (mw 163 (by decide +kernel))⟩
theorem fl_Se_24 : FL R_Se 24 2 7 := ⟨R_Se, F_Se, N_Se, rfl, by decide, i_Se, (mw 175 (by decide +kernel))⟩
theorem fl_Se_30 : FL R_Se 30 2 9 := ⟨R_Se, F_Se, N_Se, rfl, by decide, i_Se, (mw 179 (by decide +kernel))⟩
theorem ml_Se_48 : MLb R_Se 48 y_Se_store b_Se_store 3 (none) 1 := ⟨(mw 743 (by decide +kernel)), (mw 740 (by decide +kernel)), (mw 85 (by decide +kernel)), by decide +kernel⟩
theorem mv_Se_store : MLv y_Se_store := ⟨(mw 742 (by decide +kernel)), (mw 2 (by decide +kernel))⟩
theorem d_Se_add_0 : decode b_Se_add 0 = .ok (.aload_n 0, 1) := by decide +kernel
theorem d_Se_add_1 : decode b_Se_add 1 = .ok (.getfield 15, 3) := by decide +kernel
theorem d_Se_add_4 : decode b_Se_add 4 = .ok (.aload_n 0, 1) := by decide +kernel
theorem d_Se_add_5 : decode b_Se_add 5 = .ok (.getfield 34, 3) := by decide +kernel
theorem d_Se_add_8 : decode b_Se_add 8 = .ok (.iload_n 1, 1) := by decide +kernel
theorem d_Se_add_9 : decode b_Se_add 9 = .ok (.iastore, 1) := by decide +kernel
theorem d_Se_add_10 : decode b_Se_add 10 = .ok (.aload_n 0, 1) := by decide +kernel
theorem d_Se_add_11 : decode b_Se_add 11 = .ok (.getfield 18, 3) := by decide +kernel
theorem d_Se_add_14 : decode b_Se_add 14 = .ok (.aload_n 0, 1) := by decide +kernel
theorem d_Se_add_15 : decode b_Se_add 15 = .ok (.getfield 34, 3) := by decide +kernel
theorem d_Se_add_18 : decode b_Se_add 18 = .ok (.iload_n 2, 1) := by decide +kernel
theorem d_Se_add_19 : decode b_Se_add 19 = .ok (.iastore, 1) := by decide +kernel
theorem d_Se_add_20 : decode b_Se_add 20 = .ok (.aload_n 0, 1) := by decide +kernel
theorem d_Se_add_21 : decode b_Se_add 21 = .ok (.getfield 21, 3) := by decide +kernel
theorem d_Se_add_24 : decode b_Se_add 24 = .ok (.aload_n 0, 1) := by decide +kernel
theorem d_Se_add_25 : decode b_Se_add 25 = .ok (.getfield 34, 3) := by decide +kernel
theorem d_Se_add_28 : decode b_Se_add 28 = .ok (.iload_n 3, 1) := by decide +kernel
theorem d_Se_add_29 : decode b_Se_add 29 = .ok (.iastore, 1) := by decide +kernel
theorem d_Se_add_30 : decode b_Se_add 30 = .ok (.aload_n 0, 1) := by decide +kernel
theorem d_Se_add_31 : decode b_Se_add 31 = .ok (.getfield 24, 3) := by decide +kernel
theorem d_Se_add_34 : decode b_Se_add 34 = .ok (.aload_n 0, 1) := by decide +kernel
theorem d_Se_add_35 : decode b_Se_add 35 = .ok (.getfield 34, 3) := by decide +kernel
theorem d_Se_add_38 : decode b_Se_add 38 = .ok (.iload 4, 2) := by decide +kernel
theorem d_Se_add_40 : decode b_Se_add 40 = .ok (.iastore, 1) := by decide +kernel
theorem d_Se_add_41 : decode b_Se_add 41 = .ok (.aload_n 0, 1) := by decide +kernel
theorem d_Se_add_42 : decode b_Se_add 42 = .ok (.getfield 27, 3) := by decide +kernel
theorem d_Se_add_45 : decode b_Se_add 45 = .ok (.aload_n 0, 1) := by decide +kernel
theorem d_Se_add_46 : decode b_Se_add 46 = .ok (.getfield 34, 3) := by decide +kernel
theorem d_Se_add_49 : decode b_Se_add 49 = .ok (.aload_n 0, 1) := by decide +kernel
theorem d_Se_add_50 : decode b_Se_add 50 = .ok (.getfield 42, 3) := by decide +kernel
theorem d_Se_add_53 : decode b_Se_add 53 = .ok (.iastore, 1) := by decide +kernel
theorem d_Se_add_54 : decode b_Se_add 54 = .ok (.aload_n 0, 1) := by decide +kernel
theorem d_Se_add_55 : decode b_Se_add 55 = .ok (.getfield 30, 3) := by decide +kernel
theorem d_Se_add_58 : decode b_Se_add 58 = .ok (.aload_n 0, 1) := by decide +kernel
theorem d_Se_add_59 : decode b_Se_add 59 = .ok (.getfield 34, 3) := by decide +kernel
theorem d_Se_add_62 : decode b_Se_add 62 = .ok (.iconst 0, 1) := by decide +kernel
theorem d_Se_add_63 : decode b_Se_add 63 = .ok (.bastore, 1) := by decide +kernel
theorem d_Se_add_64 : decode b_Se_add 64 = .ok (.aload_n 0, 1) := by decide +kernel
theorem d_Se_add_65 : decode b_Se_add 65 = .ok (.dup, 1) := by decide +kernel
theorem d_Se_add_66 : decode b_Se_add 66 = .ok (.getfield 45, 3) := by decide +kernel
theorem d_Se_add_69 : decode b_Se_add 69 = .ok (.iload_n 3, 1) := by decide +kernel
theorem d_Se_add_70 : decode b_Se_add 70 = .ok (.iadd, 1) := by decide +kernel
theorem d_Se_add_71 : decode b_Se_add 71 = .ok (.putfield 45, 3) := by decide +kernel
theorem d_Se_add_74 : decode b_Se_add 74 = .ok (.iload_n 2, 1) := by decide +kernel
theorem d_Se_add_75 : decode b_Se_add 75 = .ok (.iconst 2, 1) := by decide +kernel
theorem d_Se_add_76 : decode b_Se_add 76 = .ok (.if_icmp .eq 10, 3) := by decide +kernel
theorem d_Se_add_79 : decode b_Se_add 79 = .ok (.aload_n 0, 1) := by decide +kernel
theorem d_Se_add_80 : decode b_Se_add 80 = .ok (.iload_n 3, 1) := by decide +kernel
theorem d_Se_add_81 : decode b_Se_add 81 = .ok (.iconst 4, 1) := by decide +kernel
theorem d_Se_add_82 : decode b_Se_add 82 = .ok (.idiv, 1) := by decide +kernel
theorem d_Se_add_83 : decode b_Se_add 83 = .ok (.invokevirtual 48, 3) := by decide +kernel
theorem d_Se_add_86 : decode b_Se_add 86 = .ok (.aload_n 0, 1) := by decide +kernel
theorem d_Se_add_87 : decode b_Se_add 87 = .ok (.dup, 1) := by decide +kernel
theorem d_Se_add_88 : decode b_Se_add 88 = .ok (.getfield 34, 3) := by decide +kernel
theorem d_Se_add_91 : decode b_Se_add 91 = .ok (.dup_x1, 1) := by decide +kernel
theorem d_Se_add_92 : decode b_Se_add 92 = .ok (.iconst 1, 1) := by decide +kernel
theorem d_Se_add_93 : decode b_Se_add 93 = .ok (.iadd, 1) := by decide +kernel
theorem d_Se_add_94 : decode b_Se_add 94 = .ok (.putfield 34, 3) := by decide +kernel
theorem d_Se_add_97 : decode b_Se_add 97 = .ok (.ireturn, 1) := by decide +kernel
