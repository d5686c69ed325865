theorem ml_Arrays_13 : MLb "java/util/Arrays" 13 y_rangeCheck b_rangeCheck 3 (none) 3 := ⟨(mw 773 (by decide +kernel)), (mw 771 (by decide +kernel)), (mw 103 (by decide +kernel)), by decide +kernel⟩
theorem ms_rangeCheck : Cond.static y_rangeCheck ∈ ALLW := (mw 772 (by decide +kernel))
theorem ml_Se_68 : MLb R_Se 68 y_fillr14 b_fillr14 5 (none) 4 := ⟨(mw 770 (by decide +kernel)), (mw 768 (by decide +kernel)), (mw 103 (by decide +kernel)), by decide +kernel⟩
theorem ms_fillr14 : Cond.static y_fillr14 ∈ ALLW := (mw 769 (by decide +kernel))
theorem ml_Se_52 : MLb R_Se 52 y_Se_roomier b_Se_roomier 1 (some .int) 1 := ⟨(mw 746 (by decide +kernel)), (mw 744 (by decide +kernel)), (mw 85 (by decide +kernel)), by decide +kernel⟩
theorem ms_Se_roomier : Cond.static y_Se_roomier ∈ ALLW := (mw 745 (by decide +kernel))
theorem mm_Se_56 : Cond.methodLink R_Se 56 Lib.Math.max.name ∈ ALLW := (mw 751 (by decide +kernel))
theorem ml_Se_62 : MLb R_Se 62 y_copyOf b_copyOf 3 (some (.array .int)) 2 := ⟨(mw 756 (by decide +kernel)), (mw 754 (by decide +kernel)), (mw 103 (by decide +kernel)), by decide +kernel⟩
theorem ms_copyOf : Cond.static y_copyOf ∈ ALLW := (mw 755 (by decide +kernel))
theorem d_rangeCheck_0 : decode b_rangeCheck 0 = .ok (.iload_n 1, 1) := by decide +kernel
theorem d_rangeCheck_1 : decode b_rangeCheck 1 = .ok (.iload_n 2, 1) := by decide +kernel
theorem d_rangeCheck_2 : decode b_rangeCheck 2 = .ok (.if_icmp .le 44, 3) := by decide +kernel
theorem d_rangeCheck_5 : decode b_rangeCheck 5 = .ok (.new 43, 3) := by decide +kernel
theorem d_rangeCheck_8 : decode b_rangeCheck 8 = .ok (.dup, 1) := by decide +kernel
theorem d_rangeCheck_9 : decode b_rangeCheck 9 = .ok (.new 45, 3) := by decide +kernel
theorem d_rangeCheck_12 : decode b_rangeCheck 12 = .ok (.dup, 1) := by decide +kernel
theorem d_rangeCheck_13 : decode b_rangeCheck 13 = .ok (.invokespecial 47, 3) := by decide +kernel
theorem d_rangeCheck_16 : decode b_rangeCheck 16 = .ok (.ldc 48, 2) := by decide +kernel
theorem d_rangeCheck_18 : decode b_rangeCheck 18 = .ok (.invokevirtual 50, 3) := by decide +kernel
theorem d_rangeCheck_21 : decode b_rangeCheck 21 = .ok (.iload_n 1, 1) := by decide +kernel
theorem d_rangeCheck_22 : decode b_rangeCheck 22 = .ok (.invokevirtual 54, 3) := by decide +kernel
theorem d_rangeCheck_25 : decode b_rangeCheck 25 = .ok (.ldc 57, 2) := by decide +kernel
theorem d_rangeCheck_27 : decode b_rangeCheck 27 = .ok (.invokevirtual 50, 3) := by decide +kernel
theorem d_rangeCheck_30 : decode b_rangeCheck 30 = .ok (.iload_n 2, 1) := by decide +kernel
theorem d_rangeCheck_31 : decode b_rangeCheck 31 = .ok (.invokevirtual 54, 3) := by decide +kernel
theorem d_rangeCheck_34 : decode b_rangeCheck 34 = .ok (.ldc 59, 2) := by decide +kernel
theorem d_rangeCheck_36 : decode b_rangeCheck 36 = .ok (.invokevirtual 50, 3) := by decide +kernel
theorem d_rangeCheck_39 : decode b_rangeCheck 39 = .ok (.invokevirtual 61, 3) := by decide +kernel
theorem d_rangeCheck_42 : decode b_rangeCheck 42 = .ok (.invokespecial 65, 3) := by decide +kernel
theorem d_rangeCheck_45 : decode b_rangeCheck 45 = .ok (.athrow, 1) := by decide +kernel
theorem d_rangeCheck_46 : decode b_rangeCheck 46 = .ok (.iload_n 1, 1) := by decide +kernel
theorem d_rangeCheck_47 : decode b_rangeCheck 47 = .ok (.ifCond .ge 12, 3) := by decide +kernel
theorem d_rangeCheck_50 : decode b_rangeCheck 50 = .ok (.new 68, 3) := by decide +kernel
theorem d_rangeCheck_53 : decode b_rangeCheck 53 = .ok (.dup, 1) := by decide +kernel
theorem d_rangeCheck_54 : decode b_rangeCheck 54 = .ok (.iload_n 1, 1) := by decide +kernel
theorem d_rangeCheck_55 : decode b_rangeCheck 55 = .ok (.invokespecial 70, 3) := by decide +kernel
theorem d_rangeCheck_58 : decode b_rangeCheck 58 = .ok (.athrow, 1) := by decide +kernel
theorem d_rangeCheck_59 : decode b_rangeCheck 59 = .ok (.iload_n 2, 1) := by decide +kernel
theorem d_rangeCheck_60 : decode b_rangeCheck 60 = .ok (.iload_n 0, 1) := by decide +kernel
theorem d_rangeCheck_61 : decode b_rangeCheck 61 = .ok (.if_icmp .le 12, 3) := by decide +kernel
theorem d_rangeCheck_64 : decode b_rangeCheck 64 = .ok (.new 68, 3) := by decide +kernel
theorem d_rangeCheck_67 : decode b_rangeCheck 67 = .ok (.dup, 1) := by decide +kernel
theorem d_rangeCheck_68 : decode b_rangeCheck 68 = .ok (.iload_n 2, 1) := by decide +kernel
theorem d_rangeCheck_69 : decode b_rangeCheck 69 = .ok (.invokespecial 70, 3) := by decide +kernel
theorem d_rangeCheck_72 : decode b_rangeCheck 72 = .ok (.athrow, 1) := by decide +kernel
theorem d_rangeCheck_73 : decode b_rangeCheck 73 = .ok (.return_, 1) := by decide +kernel
theorem d_fillr14_0 : decode b_fillr14 0 = .ok (.aload_n 0, 1) := by decide +kernel
theorem d_fillr14_1 : decode b_fillr14 1 = .ok (.arraylength, 1) := by decide +kernel
theorem d_fillr14_2 : decode b_fillr14 2 = .ok (.iload_n 1, 1) := by decide +kernel
theorem d_fillr14_3 : decode b_fillr14 3 = .ok (.iload_n 2, 1) := by decide +kernel
theorem d_fillr14_4 : decode b_fillr14 4 = .ok (.invokestatic 13, 3) := by decide +kernel
theorem d_fillr14_7 : decode b_fillr14 7 = .ok (.iload_n 1, 1) := by decide +kernel
theorem d_fillr14_8 : decode b_fillr14 8 = .ok (.istore 4, 2) := by decide +kernel
theorem d_fillr14_10 : decode b_fillr14 10 = .ok (.iload 4, 2) := by decide +kernel
theorem d_fillr14_12 : decode b_fillr14 12 = .ok (.iload_n 2, 1) := by decide +kernel
theorem d_fillr14_13 : decode b_fillr14 13 = .ok (.if_icmp .ge 14, 3) := by decide +kernel
theorem d_fillr14_16 : decode b_fillr14 16 = .ok (.aload_n 0, 1) := by decide +kernel
theorem d_fillr14_17 : decode b_fillr14 17 = .ok (.iload 4, 2) := by decide +kernel
theorem d_fillr14_19 : decode b_fillr14 19 = .ok (.iload_n 3, 1) := by decide +kernel
theorem d_fillr14_20 : decode b_fillr14 20 = .ok (.iastore, 1) := by decide +kernel
theorem d_fillr14_21 : decode b_fillr14 21 = .ok (.iinc 4 1, 3) := by decide +kernel
theorem d_fillr14_24 : decode b_fillr14 24 = .ok (.goto (-14), 3) := by decide +kernel
theorem d_fillr14_27 : decode b_fillr14 27 = .ok (.return_, 1) := by decide +kernel
theorem d_Se_store_0 : decode b_Se_store 0 = .ok (.aload_n 0, 1) := by decide +kernel
theorem d_Se_store_1 : decode b_Se_store 1 = .ok (.getfield 42, 3) := by decide +kernel
theorem d_Se_store_4 : decode b_Se_store 4 = .ok (.iload_n 1, 1) := by decide +kernel
theorem d_Se_store_5 : decode b_Se_store 5 = .ok (.iadd, 1) := by decide +kernel
theorem d_Se_store_6 : decode b_Se_store 6 = .ok (.istore_n 2, 1) := by decide +kernel
theorem d_Se_store_7 : decode b_Se_store 7 = .ok (.iload_n 2, 1) := by decide +kernel
theorem d_Se_store_8 : decode b_Se_store 8 = .ok (.aload_n 0, 1) := by decide +kernel
theorem d_Se_store_9 : decode b_Se_store 9 = .ok (.getfield 9, 3) := by decide +kernel
theorem d_Se_store_12 : decode b_Se_store 12 = .ok (.arraylength, 1) := by decide +kernel
theorem d_Se_store_13 : decode b_Se_store 13 = .ok (.if_icmp .le 26, 3) := by decide +kernel
theorem d_Se_store_16 : decode b_Se_store 16 = .ok (.aload_n 0, 1) := by decide +kernel
theorem d_Se_store_17 : decode b_Se_store 17 = .ok (.aload_n 0, 1) := by decide +kernel
theorem d_Se_store_18 : decode b_Se_store 18 = .ok (.getfield 9, 3) := by decide +kernel
theorem d_Se_store_21 : decode b_Se_store 21 = .ok (.iload_n 2, 1) := by decide +kernel
theorem d_Se_store_22 : decode b_Se_store 22 = .ok (.aload_n 0, 1) := by decide +kernel
theorem d_Se_store_23 : decode b_Se_store 23 = .ok (.getfield 9, 3) := by decide +kernel
theorem d_Se_store_26 : decode b_Se_store 26 = .ok (.arraylength, 1) := by decide +kernel
theorem d_Se_store_27 : decode b_Se_store 27 = .ok (.invokestatic 52, 3) := by decide +kernel
theorem d_Se_store_30 : decode b_Se_store 30 = .ok (.invokestatic 56, 3) := by decide +kernel
theorem d_Se_store_33 : decode b_Se_store 33 = .ok (.invokestatic 62, 3) := by decide +kernel
theorem d_Se_store_36 : decode b_Se_store 36 = .ok (.putfield 9, 3) := by decide +kernel
theorem d_Se_store_39 : decode b_Se_store 39 = .ok (.aload_n 0, 1) := by decide +kernel
theorem d_Se_store_40 : decode b_Se_store 40 = .ok (.getfield 9, 3) := by decide +kernel
theorem d_Se_store_43 : decode b_Se_store 43 = .ok (.aload_n 0, 1) := by decide +kernel
theorem d_Se_store_44 : decode b_Se_store 44 = .ok (.getfield 42, 3) := by decide +kernel
theorem d_Se_store_47 : decode b_Se_store 47 = .ok (.iload_n 2, 1) := by decide +kernel
theorem d_Se_store_48 : decode b_Se_store 48 = .ok (.iconst 0, 1) := by decide +kernel
theorem d_Se_store_49 : decode b_Se_store 49 = .ok (.invokestatic 68, 3) := by decide +kernel
theorem d_Se_store_52 : decode b_Se_store 52 = .ok (.aload_n 0, 1) := by decide +kernel
theorem d_Se_store_53 : decode b_Se_store 53 = .ok (.iload_n 2, 1) := by decide +kernel
theorem d_Se_store_54 : decode b_Se_store 54 = .ok (.putfield 42, 3) := by decide +kernel
theorem d_Se_store_57 : decode b_Se_store 57 = .ok (.return_, 1) := by decide +kernel
