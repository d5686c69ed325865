theorem fl_Mo_115 : FL R_Mo 115 12 0 := ⟨R_Mo, F_Mo, N_Mo, rfl, by decide, i_Mo, (mw 1566 (by decide +kernel))⟩
theorem ft_Mo_0 : FT 12 0 .int := ⟨R_Mo, F_Mo, N_Mo, rfl, rfl, by decide +kernel⟩
theorem fl_Mo_118 : FL R_Mo 118 12 29 := ⟨R_Mo, F_Mo, N_Mo, rfl, by decide, i_Mo, (mw 1595 (by decide +kernel))⟩
theorem ft_Mo_29 : FT 12 29 .boolean := ⟨R_Mo, F_Mo, N_Mo, rfl, rfl, by decide +kernel⟩
theorem fl_Mo_122 : FL R_Mo 122 12 30 := ⟨R_Mo, F_Mo, N_Mo, rfl, by decide, i_Mo, (mw 1596 (by decide +kernel))⟩
theorem ft_Mo_30 : FT 12 30 .int := ⟨R_Mo, F_Mo, N_Mo, rfl, rfl, by decide +kernel⟩
theorem fl_Mo_73 : FL R_Mo 73 12 31 := ⟨R_Mo, F_Mo, N_Mo, rfl, by decide, i_Mo, (mw 1597 (by decide +kernel))⟩
theorem ft_Mo_31 : FT 12 31 .int := ⟨R_Mo, F_Mo, N_Mo, rfl, rfl, by decide +kernel⟩
theorem fl_Mo_76 : FL R_Mo 76 12 32 := ⟨R_Mo, F_Mo, N_Mo, rfl, by decide, i_Mo, (mw 1598 (by decide +kernel))⟩
theorem ft_Mo_32 : FT 12 32 .int := ⟨R_Mo, F_Mo, N_Mo, rfl, rfl, by decide +kernel⟩
theorem ml_Mo_125 : MLb R_Mo 125 y_Mo_within b_Mo_within 3 (some .boolean) 3 := ⟨(mw 1727 (by decide +kernel)), (mw 1725 (by decide +kernel)), (mw 95 (by decide +kernel)), by decide +kernel⟩
theorem ms_Mo_within : Cond.static y_Mo_within ∈ ALLW := (mw 1726 (by decide +kernel))
theorem ml_Mo_132 : MLb R_Mo 132 y_Mo_refuse b_Mo_refuse 3 (some .boolean) 2 := ⟨(mw 1731 (by decide +kernel)), (mw 1728 (by decide +kernel)), (mw 95 (by decide +kernel)), by decide +kernel⟩
theorem mv_Mo_refuse : MLv y_Mo_refuse := ⟨(mw 1730 (by decide +kernel)), (mw 44 (by decide +kernel))⟩
theorem ml_Mo_136 : MLb R_Mo 136 y_Mo_told b_Mo_told 1 (none) 0 := ⟨(mw 1735 (by decide +kernel)), (mw 1732 (by decide +kernel)), (mw 95 (by decide +kernel)), by decide +kernel⟩
theorem mv_Mo_told : MLv y_Mo_told := ⟨(mw 1734 (by decide +kernel)), (mw 45 (by decide +kernel))⟩
theorem fl_Mo_7 : FL R_Mo 7 12 2 := ⟨R_Mo, F_Mo, N_Mo, rfl, by decide, i_Mo, (mw 1568 (by decide +kernel))⟩
theorem fl_Mo_129 : FL R_Mo 129 12 1 := ⟨R_Mo, F_Mo, N_Mo, rfl, by decide, i_Mo, (mw 1567 (by decide +kernel))⟩
theorem ft_Mo_1 : FT 12 1 .int := ⟨R_Mo, F_Mo, N_Mo, rfl, rfl, by decide +kernel⟩
theorem fl_Mo_33 : FL R_Mo 33 12 12 := ⟨R_Mo, F_Mo, N_Mo, rfl, by decide, i_Mo, (mw 1578 (by decide +kernel))⟩
theorem fl_Mo_150 : FL R_Mo 150 12 11 := ⟨R_Mo, F_Mo, N_Mo, rfl, by decide, i_Mo, (mw 1577 (by decide +kernel))⟩
theorem ft_Mo_11 : FT 12 11 .int := ⟨R_Mo, F_Mo, N_Mo, rfl, rfl, by decide +kernel⟩
theorem fl_Mo_13 : FL R_Mo 13 12 4 := ⟨R_Mo, F_Mo, N_Mo, rfl, by decide, i_Mo, (mw 1570 (by decide +kernel))⟩
theorem fl_Mo_143 : FL R_Mo 143 12 3 := ⟨R_Mo, F_Mo, N_Mo, rfl, by decide, i_Mo, (mw 1569 (by decide +kernel))⟩
theorem fl_Mo_16 : FL R_Mo 16 12 5 := ⟨R_Mo, F_Mo, N_Mo, rfl, by decide, i_Mo, (mw 1571 (by decide +kernel))⟩
theorem fl_Mo_19 : FL R_Mo 19 12 6 := ⟨R_Mo, F_Mo, N_Mo, rfl, by decide, i_Mo, (mw 1572 (by decide +kernel))⟩
theorem fl_Mo_22 : FL R_Mo 22 12 7 := ⟨R_Mo, F_Mo, N_Mo, rfl, by decide, i_Mo, (mw 1573 (by decide +kernel))⟩
theorem fl_Mo_25 : FL R_Mo 25 12 8 := ⟨R_Mo, F_Mo, N_Mo, rfl, by decide, i_Mo, (mw 1574 (by decide +kernel))⟩
theorem fl_Mo_28 : FL R_Mo 28 12 9 := ⟨R_Mo, F_Mo, N_Mo, rfl, by decide, i_Mo, (mw 1575 (by decide +kernel))⟩
theorem fl_Mo_146 : FL R_Mo 146 12 10 := ⟨R_Mo, F_Mo, N_Mo, rfl, by decide, i_Mo, (mw 1576 (by decide +kernel))⟩
theorem ft_Mo_10 : FT 12 10 .int := ⟨R_Mo, F_Mo, N_Mo, rfl, rfl, by decide +kernel⟩
theorem ft_Mo_3 : FT 12 3 .int := ⟨R_Mo, F_Mo, N_Mo, rfl, rfl, by decide +kernel⟩
theorem kc_Mo_149 : Cond.constant R_Mo 149 400000 ∈ ALLW := (mw 1743 (by decide +kernel))
theorem ml_Mo_139 : MLb R_Mo 139 y_Mo_isAlignment b_Mo_isAlignment 1 (some .boolean) 1 := ⟨(mw 1742 (by decide +kernel)), (mw 1740 (by decide +kernel)), (mw 95 (by decide +kernel)), by decide +kernel⟩
theorem ms_Mo_isAlignment : Cond.static y_Mo_isAlignment ∈ ALLW := (mw 1741 (by decide +kernel))
theorem ml_Mo_153 : MLb R_Mo 153 y_Mo_isPlace b_Mo_isPlace 3 (some .boolean) 2 := ⟨(mw 1751 (by decide +kernel)), (mw 1748 (by decide +kernel)), (mw 95 (by decide +kernel)), by decide +kernel⟩
theorem mv_Mo_isPlace : MLv y_Mo_isPlace := ⟨(mw 1750 (by decide +kernel)), (mw 46 (by decide +kernel))⟩
theorem fl_Mo_157 : FL R_Mo 157 12 13 := ⟨R_Mo, F_Mo, N_Mo, rfl, by decide, i_Mo, (mw 1579 (by decide +kernel))⟩
theorem fl_Mo_36 : FL R_Mo 36 12 14 := ⟨R_Mo, F_Mo, N_Mo, rfl, by decide, i_Mo, (mw 1580 (by decide +kernel))⟩
theorem fl_Mo_48 : FL R_Mo 48 12 18 := ⟨R_Mo, F_Mo, N_Mo, rfl, by decide, i_Mo, (mw 1584 (by decide +kernel))⟩
theorem fl_Mo_51 : FL R_Mo 51 12 19 := ⟨R_Mo, F_Mo, N_Mo, rfl, by decide, i_Mo, (mw 1585 (by decide +kernel))⟩
theorem fl_Mo_39 : FL R_Mo 39 12 15 := ⟨R_Mo, F_Mo, N_Mo, rfl, by decide, i_Mo, (mw 1581 (by decide +kernel))⟩
theorem fl_Mo_42 : FL R_Mo 42 12 16 := ⟨R_Mo, F_Mo, N_Mo, rfl, by decide, i_Mo, (mw 1582 (by decide +kernel))⟩
theorem fl_Mo_45 : FL R_Mo 45 12 17 := ⟨R_Mo, F_Mo, N_Mo, rfl, by decide, i_Mo, (mw 1583 (by decide +kernel))⟩
theorem ft_Mo_13 : FT 12 13 .int := ⟨R_Mo, F_Mo, N_Mo, rfl, rfl, by decide +kernel⟩
theorem d_Mo_thrown_0 : decode b_Mo_thrown 0 = .ok (.aload_n 0, 1) := by decide +kernel
theorem d_Mo_thrown_1 : decode b_Mo_thrown 1 = .ok (.getfield 115, 3) := by decide +kernel
theorem d_Mo_thrown_4 : decode b_Mo_thrown 4 = .ok (.ireturn, 1) := by decide +kernel
theorem d_Mo_refuse_0 : decode b_Mo_refuse 0 = .ok (.aload_n 0, 1) := by decide +kernel
theorem d_Mo_refuse_1 : decode b_Mo_refuse 1 = .ok (.iload_n 1, 1) := by decide +kernel
theorem d_Mo_refuse_2 : decode b_Mo_refuse 2 = .ok (.ifCond .eq 7, 3) := by decide +kernel
theorem d_Mo_refuse_5 : decode b_Mo_refuse 5 = .ok (.iconst 1, 1) := by decide +kernel
theorem d_Mo_refuse_6 : decode b_Mo_refuse 6 = .ok (.goto 12, 3) := by decide +kernel
theorem d_Mo_refuse_9 : decode b_Mo_refuse 9 = .ok (.iload_n 2, 1) := by decide +kernel
theorem d_Mo_refuse_10 : decode b_Mo_refuse 10 = .ok (.ifCond .eq 7, 3) := by decide +kernel
theorem d_Mo_refuse_13 : decode b_Mo_refuse 13 = .ok (.iconst 2, 1) := by decide +kernel
theorem d_Mo_refuse_14 : decode b_Mo_refuse 14 = .ok (.goto 4, 3) := by decide +kernel
theorem d_Mo_refuse_17 : decode b_Mo_refuse 17 = .ok (.iconst 0, 1) := by decide +kernel
theorem d_Mo_refuse_18 : decode b_Mo_refuse 18 = .ok (.putfield 115, 3) := by decide +kernel
theorem d_Mo_refuse_21 : decode b_Mo_refuse 21 = .ok (.aload_n 0, 1) := by decide +kernel
theorem d_Mo_refuse_22 : decode b_Mo_refuse 22 = .ok (.getfield 115, 3) := by decide +kernel
theorem d_Mo_refuse_25 : decode b_Mo_refuse 25 = .ok (.ifCond .le 7, 3) := by decide +kernel
theorem d_Mo_refuse_28 : decode b_Mo_refuse 28 = .ok (.iconst 1, 1) := by decide +kernel
theorem d_Mo_refuse_29 : decode b_Mo_refuse 29 = .ok (.goto 4, 3) := by decide +kernel
theorem d_Mo_refuse_32 : decode b_Mo_refuse 32 = .ok (.iconst 0, 1) := by decide +kernel
theorem d_Mo_refuse_33 : decode b_Mo_refuse 33 = .ok (.ireturn, 1) := by decide +kernel
theorem d_Mo_within_0 : decode b_Mo_within 0 = .ok (.iload_n 0, 1) := by decide +kernel
theorem d_Mo_within_1 : decode b_Mo_within 1 = .ok (.iload_n 1, 1) := by decide +kernel
theorem d_Mo_within_2 : decode b_Mo_within 2 = .ok (.if_icmp .lt 12, 3) := by decide +kernel
theorem d_Mo_within_5 : decode b_Mo_within 5 = .ok (.iload_n 0, 1) := by decide +kernel
theorem d_Mo_within_6 : decode b_Mo_within 6 = .ok (.iload_n 2, 1) := by decide +kernel
theorem d_Mo_within_7 : decode b_Mo_within 7 = .ok (.if_icmp .gt 7, 3) := by decide +kernel
theorem d_Mo_within_10 : decode b_Mo_within 10 = .ok (.iconst 1, 1) := by decide +kernel
theorem d_Mo_within_11 : decode b_Mo_within 11 = .ok (.goto 4, 3) := by decide +kernel
theorem d_Mo_within_14 : decode b_Mo_within 14 = .ok (.iconst 0, 1) := by decide +kernel
theorem d_Mo_within_15 : decode b_Mo_within 15 = .ok (.ireturn, 1) := by decide +kernel
theorem d_Mo_told_0 : decode b_Mo_told 0 = .ok (.aload_n 0, 1) := by decide +kernel
theorem d_Mo_told_1 : decode b_Mo_told 1 = .ok (.iconst 0, 1) := by decide +kernel
theorem d_Mo_told_2 : decode b_Mo_told 2 = .ok (.putfield 118, 3) := by decide +kernel
theorem d_Mo_told_5 : decode b_Mo_told 5 = .ok (.aload_n 0, 1) := by decide +kernel
theorem d_Mo_told_6 : decode b_Mo_told 6 = .ok (.iconst 0, 1) := by decide +kernel
theorem d_Mo_told_7 : decode b_Mo_told 7 = .ok (.putfield 122, 3) := by decide +kernel
theorem d_Mo_told_10 : decode b_Mo_told 10 = .ok (.aload_n 0, 1) := by decide +kernel
theorem d_Mo_told_11 : decode b_Mo_told 11 = .ok (.iconst (-1), 1) := by decide +kernel
theorem d_Mo_told_12 : decode b_Mo_told 12 = .ok (.putfield 73, 3) := by decide +kernel
theorem d_Mo_told_15 : decode b_Mo_told 15 = .ok (.aload_n 0, 1) := by decide +kernel
theorem d_Mo_told_16 : decode b_Mo_told 16 = .ok (.iconst (-1), 1) := by decide +kernel
theorem d_Mo_told_17 : decode b_Mo_told 17 = .ok (.putfield 76, 3) := by decide +kernel
theorem d_Mo_told_20 : decode b_Mo_told 20 = .ok (.return_, 1) := by decide +kernel
theorem d_Mo_unit_0 : decode b_Mo_unit 0 = .ok (.iload_n 1, 1) := by decide +kernel
theorem d_Mo_unit_1 : decode b_Mo_unit 1 = .ok (.iconst (-1), 1) := by decide +kernel
theorem d_Mo_unit_2 : decode b_Mo_unit 2 = .ok (.iconst 3, 1) := by decide +kernel
theorem d_Mo_unit_3 : decode b_Mo_unit 3 = .ok (.invokestatic 125, 3) := by decide +kernel
theorem d_Mo_unit_6 : decode b_Mo_unit 6 = .ok (.istore_n 2, 1) := by decide +kernel
theorem d_Mo_unit_7 : decode b_Mo_unit 7 = .ok (.aload_n 0, 1) := by decide +kernel
theorem d_Mo_unit_8 : decode b_Mo_unit 8 = .ok (.iload_n 2, 1) := by decide +kernel
theorem d_Mo_unit_9 : decode b_Mo_unit 9 = .ok (.ifCond .ne 7, 3) := by decide +kernel
theorem d_Mo_unit_12 : decode b_Mo_unit 12 = .ok (.iconst 1, 1) := by decide +kernel
theorem d_Mo_unit_13 : decode b_Mo_unit 13 = .ok (.goto 4, 3) := by decide +kernel
theorem d_Mo_unit_16 : decode b_Mo_unit 16 = .ok (.iconst 0, 1) := by decide +kernel
theorem d_Mo_unit_17 : decode b_Mo_unit 17 = .ok (.iload_n 2, 1) := by decide +kernel
theorem d_Mo_unit_18 : decode b_Mo_unit 18 = .ok (.ifCond .eq 16, 3) := by decide +kernel
theorem d_Mo_unit_21 : decode b_Mo_unit 21 = .ok (.aload_n 0, 1) := by decide +kernel
theorem d_Mo_unit_22 : decode b_Mo_unit 22 = .ok (.getfield 129, 3) := by decide +kernel
theorem d_Mo_unit_25 : decode b_Mo_unit 25 = .ok (.bipush 24, 2) := by decide +kernel
theorem d_Mo_unit_27 : decode b_Mo_unit 27 = .ok (.if_icmp .ne 7, 3) := by decide +kernel
theorem d_Mo_unit_30 : decode b_Mo_unit 30 = .ok (.iconst 1, 1) := by decide +kernel
theorem d_Mo_unit_31 : decode b_Mo_unit 31 = .ok (.goto 4, 3) := by decide +kernel
theorem d_Mo_unit_34 : decode b_Mo_unit 34 = .ok (.iconst 0, 1) := by decide +kernel
theorem d_Mo_unit_35 : decode b_Mo_unit 35 = .ok (.invokevirtual 132, 3) := by decide +kernel
theorem d_Mo_unit_38 : decode b_Mo_unit 38 = .ok (.ifCond .eq 5, 3) := by decide +kernel
theorem d_Mo_unit_41 : decode b_Mo_unit 41 = .ok (.iconst 0, 1) := by decide +kernel
theorem d_Mo_unit_42 : decode b_Mo_unit 42 = .ok (.ireturn, 1) := by decide +kernel
theorem d_Mo_unit_43 : decode b_Mo_unit 43 = .ok (.aload_n 0, 1) := by decide +kernel
theorem d_Mo_unit_44 : decode b_Mo_unit 44 = .ok (.invokevirtual 136, 3) := by decide +kernel
theorem d_Mo_unit_47 : decode b_Mo_unit 47 = .ok (.aload_n 0, 1) := by decide +kernel
theorem d_Mo_unit_48 : decode b_Mo_unit 48 = .ok (.getfield 7, 3) := by decide +kernel
theorem d_Mo_unit_51 : decode b_Mo_unit 51 = .ok (.aload_n 0, 1) := by decide +kernel
theorem d_Mo_unit_52 : decode b_Mo_unit 52 = .ok (.getfield 129, 3) := by decide +kernel
theorem d_Mo_unit_55 : decode b_Mo_unit 55 = .ok (.iload_n 1, 1) := by decide +kernel
theorem d_Mo_unit_56 : decode b_Mo_unit 56 = .ok (.iastore, 1) := by decide +kernel
theorem d_Mo_unit_57 : decode b_Mo_unit 57 = .ok (.aload_n 0, 1) := by decide +kernel
theorem d_Mo_unit_58 : decode b_Mo_unit 58 = .ok (.dup, 1) := by decide +kernel
theorem d_Mo_unit_59 : decode b_Mo_unit 59 = .ok (.getfield 129, 3) := by decide +kernel
theorem d_Mo_unit_62 : decode b_Mo_unit 62 = .ok (.iconst 1, 1) := by decide +kernel
theorem d_Mo_unit_63 : decode b_Mo_unit 63 = .ok (.iadd, 1) := by decide +kernel
theorem d_Mo_unit_64 : decode b_Mo_unit 64 = .ok (.putfield 129, 3) := by decide +kernel
theorem d_Mo_unit_67 : decode b_Mo_unit 67 = .ok (.aload_n 0, 1) := by decide +kernel
theorem d_Mo_unit_68 : decode b_Mo_unit 68 = .ok (.getfield 129, 3) := by decide +kernel
theorem d_Mo_unit_71 : decode b_Mo_unit 71 = .ok (.iconst 1, 1) := by decide +kernel
theorem d_Mo_unit_72 : decode b_Mo_unit 72 = .ok (.isub, 1) := by decide +kernel
theorem d_Mo_unit_73 : decode b_Mo_unit 73 = .ok (.ireturn, 1) := by decide +kernel
theorem d_Mo_isAlignment_0 : decode b_Mo_isAlignment 0 = .ok (.iload_n 0, 1) := by decide +kernel
theorem d_Mo_isAlignment_1 : decode b_Mo_isAlignment 1 = .ok (.iconst 4, 1) := by decide +kernel
theorem d_Mo_isAlignment_2 : decode b_Mo_isAlignment 2 = .ok (.sipush 4096, 3) := by decide +kernel
theorem d_Mo_isAlignment_5 : decode b_Mo_isAlignment 5 = .ok (.invokestatic 125, 3) := by decide +kernel
theorem d_Mo_isAlignment_8 : decode b_Mo_isAlignment 8 = .ok (.ifCond .eq 15, 3) := by decide +kernel
theorem d_Mo_isAlignment_11 : decode b_Mo_isAlignment 11 = .ok (.iload_n 0, 1) := by decide +kernel
theorem d_Mo_isAlignment_12 : decode b_Mo_isAlignment 12 = .ok (.iload_n 0, 1) := by decide +kernel
theorem d_Mo_isAlignment_13 : decode b_Mo_isAlignment 13 = .ok (.iconst 1, 1) := by decide +kernel
theorem d_Mo_isAlignment_14 : decode b_Mo_isAlignment 14 = .ok (.isub, 1) := by decide +kernel
theorem d_Mo_isAlignment_15 : decode b_Mo_isAlignment 15 = .ok (.iand, 1) := by decide +kernel
theorem d_Mo_isAlignment_16 : decode b_Mo_isAlignment 16 = .ok (.ifCond .ne 7, 3) := by decide +kernel
theorem d_Mo_isAlignment_19 : decode b_Mo_isAlignment 19 = .ok (.iconst 1, 1) := by decide +kernel
theorem d_Mo_isAlignment_20 : decode b_Mo_isAlignment 20 = .ok (.goto 4, 3) := by decide +kernel
theorem d_Mo_isAlignment_23 : decode b_Mo_isAlignment 23 = .ok (.iconst 0, 1) := by decide +kernel
theorem d_Mo_isAlignment_24 : decode b_Mo_isAlignment 24 = .ok (.ireturn, 1) := by decide +kernel
theorem d_Mo_section_0 : decode b_Mo_section 0 = .ok (.iload_n 1, 1) := by decide +kernel
theorem d_Mo_section_1 : decode b_Mo_section 1 = .ok (.iconst 0, 1) := by decide +kernel
theorem d_Mo_section_2 : decode b_Mo_section 2 = .ok (.aload_n 0, 1) := by decide +kernel
theorem d_Mo_section_3 : decode b_Mo_section 3 = .ok (.getfield 129, 3) := by decide +kernel
theorem d_Mo_section_6 : decode b_Mo_section 6 = .ok (.iconst 1, 1) := by decide +kernel
theorem d_Mo_section_7 : decode b_Mo_section 7 = .ok (.isub, 1) := by decide +kernel
theorem d_Mo_section_8 : decode b_Mo_section 8 = .ok (.invokestatic 125, 3) := by decide +kernel
theorem d_Mo_section_11 : decode b_Mo_section 11 = .ok (.ifCond .eq 41, 3) := by decide +kernel
theorem d_Mo_section_14 : decode b_Mo_section 14 = .ok (.iload_n 2, 1) := by decide +kernel
theorem d_Mo_section_15 : decode b_Mo_section 15 = .ok (.iconst 0, 1) := by decide +kernel
theorem d_Mo_section_16 : decode b_Mo_section 16 = .ok (.iconst 2, 1) := by decide +kernel
theorem d_Mo_section_17 : decode b_Mo_section 17 = .ok (.invokestatic 125, 3) := by decide +kernel
theorem d_Mo_section_20 : decode b_Mo_section 20 = .ok (.ifCond .eq 32, 3) := by decide +kernel
theorem d_Mo_section_23 : decode b_Mo_section 23 = .ok (.iload_n 3, 1) := by decide +kernel
theorem d_Mo_section_24 : decode b_Mo_section 24 = .ok (.iconst 0, 1) := by decide +kernel
theorem d_Mo_section_25 : decode b_Mo_section 25 = .ok (.sipush 8192, 3) := by decide +kernel
theorem d_Mo_section_28 : decode b_Mo_section 28 = .ok (.invokestatic 125, 3) := by decide +kernel
theorem d_Mo_section_31 : decode b_Mo_section 31 = .ok (.ifCond .eq 21, 3) := by decide +kernel
theorem d_Mo_section_34 : decode b_Mo_section 34 = .ok (.iload_n 3, 1) := by decide +kernel
theorem d_Mo_section_35 : decode b_Mo_section 35 = .ok (.iconst 4, 1) := by decide +kernel
theorem d_Mo_section_36 : decode b_Mo_section 36 = .ok (.irem, 1) := by decide +kernel
theorem d_Mo_section_37 : decode b_Mo_section 37 = .ok (.ifCond .ne 15, 3) := by decide +kernel
theorem d_Mo_section_40 : decode b_Mo_section 40 = .ok (.iload 4, 2) := by decide +kernel
theorem d_Mo_section_42 : decode b_Mo_section 42 = .ok (.invokestatic 139, 3) := by decide +kernel
theorem d_Mo_section_45 : decode b_Mo_section 45 = .ok (.ifCond .eq 7, 3) := by decide +kernel
theorem d_Mo_section_48 : decode b_Mo_section 48 = .ok (.iconst 1, 1) := by decide +kernel
theorem d_Mo_section_49 : decode b_Mo_section 49 = .ok (.goto 4, 3) := by decide +kernel
theorem d_Mo_section_52 : decode b_Mo_section 52 = .ok (.iconst 0, 1) := by decide +kernel
theorem d_Mo_section_53 : decode b_Mo_section 53 = .ok (.istore 5, 2) := by decide +kernel
theorem d_Mo_section_55 : decode b_Mo_section 55 = .ok (.aload_n 0, 1) := by decide +kernel
theorem d_Mo_section_56 : decode b_Mo_section 56 = .ok (.iload 5, 2) := by decide +kernel
theorem d_Mo_section_58 : decode b_Mo_section 58 = .ok (.ifCond .ne 7, 3) := by decide +kernel
theorem d_Mo_section_61 : decode b_Mo_section 61 = .ok (.iconst 1, 1) := by decide +kernel
theorem d_Mo_section_62 : decode b_Mo_section 62 = .ok (.goto 4, 3) := by decide +kernel
theorem d_Mo_section_65 : decode b_Mo_section 65 = .ok (.iconst 0, 1) := by decide +kernel
theorem d_Mo_section_66 : decode b_Mo_section 66 = .ok (.iload 5, 2) := by decide +kernel
theorem d_Mo_section_68 : decode b_Mo_section 68 = .ok (.ifCond .eq 27, 3) := by decide +kernel
theorem d_Mo_section_71 : decode b_Mo_section 71 = .ok (.aload_n 0, 1) := by decide +kernel
theorem d_Mo_section_72 : decode b_Mo_section 72 = .ok (.getfield 143, 3) := by decide +kernel
theorem d_Mo_section_75 : decode b_Mo_section 75 = .ok (.bipush 96, 2) := by decide +kernel
theorem d_Mo_section_77 : decode b_Mo_section 77 = .ok (.if_icmp .eq 14, 3) := by decide +kernel
theorem d_Mo_section_80 : decode b_Mo_section 80 = .ok (.aload_n 0, 1) := by decide +kernel
theorem d_Mo_section_81 : decode b_Mo_section 81 = .ok (.getfield 146, 3) := by decide +kernel
theorem d_Mo_section_84 : decode b_Mo_section 84 = .ok (.iload_n 3, 1) := by decide +kernel
theorem d_Mo_section_85 : decode b_Mo_section 85 = .ok (.iadd, 1) := by decide +kernel
theorem d_Mo_section_86 : decode b_Mo_section 86 = .ok (.ldc 149, 2) := by decide +kernel
theorem d_Mo_section_88 : decode b_Mo_section 88 = .ok (.if_icmp .le 7, 3) := by decide +kernel
theorem d_Mo_section_91 : decode b_Mo_section 91 = .ok (.iconst 1, 1) := by decide +kernel
theorem d_Mo_section_92 : decode b_Mo_section 92 = .ok (.goto 4, 3) := by decide +kernel
theorem d_Mo_section_95 : decode b_Mo_section 95 = .ok (.iconst 0, 1) := by decide +kernel
theorem d_Mo_section_96 : decode b_Mo_section 96 = .ok (.invokevirtual 132, 3) := by decide +kernel
theorem d_Mo_section_99 : decode b_Mo_section 99 = .ok (.ifCond .eq 5, 3) := by decide +kernel
theorem d_Mo_section_102 : decode b_Mo_section 102 = .ok (.iconst 0, 1) := by decide +kernel
theorem d_Mo_section_103 : decode b_Mo_section 103 = .ok (.ireturn, 1) := by decide +kernel
theorem d_Mo_section_104 : decode b_Mo_section 104 = .ok (.aload_n 0, 1) := by decide +kernel
theorem d_Mo_section_105 : decode b_Mo_section 105 = .ok (.invokevirtual 136, 3) := by decide +kernel
theorem d_Mo_section_108 : decode b_Mo_section 108 = .ok (.aload_n 0, 1) := by decide +kernel
theorem d_Mo_section_109 : decode b_Mo_section 109 = .ok (.getfield 13, 3) := by decide +kernel
theorem d_Mo_section_112 : decode b_Mo_section 112 = .ok (.aload_n 0, 1) := by decide +kernel
theorem d_Mo_section_113 : decode b_Mo_section 113 = .ok (.getfield 143, 3) := by decide +kernel
theorem d_Mo_section_116 : decode b_Mo_section 116 = .ok (.iload_n 1, 1) := by decide +kernel
theorem d_Mo_section_117 : decode b_Mo_section 117 = .ok (.iastore, 1) := by decide +kernel
theorem d_Mo_section_118 : decode b_Mo_section 118 = .ok (.aload_n 0, 1) := by decide +kernel
theorem d_Mo_section_119 : decode b_Mo_section 119 = .ok (.getfield 16, 3) := by decide +kernel
theorem d_Mo_section_122 : decode b_Mo_section 122 = .ok (.aload_n 0, 1) := by decide +kernel
theorem d_Mo_section_123 : decode b_Mo_section 123 = .ok (.getfield 143, 3) := by decide +kernel
theorem d_Mo_section_126 : decode b_Mo_section 126 = .ok (.iload_n 2, 1) := by decide +kernel
theorem d_Mo_section_127 : decode b_Mo_section 127 = .ok (.iastore, 1) := by decide +kernel
theorem d_Mo_section_128 : decode b_Mo_section 128 = .ok (.aload_n 0, 1) := by decide +kernel
theorem d_Mo_section_129 : decode b_Mo_section 129 = .ok (.getfield 19, 3) := by decide +kernel
theorem d_Mo_section_132 : decode b_Mo_section 132 = .ok (.aload_n 0, 1) := by decide +kernel
theorem d_Mo_section_133 : decode b_Mo_section 133 = .ok (.getfield 143, 3) := by decide +kernel
theorem d_Mo_section_136 : decode b_Mo_section 136 = .ok (.iload_n 3, 1) := by decide +kernel
theorem d_Mo_section_137 : decode b_Mo_section 137 = .ok (.iastore, 1) := by decide +kernel
theorem d_Mo_section_138 : decode b_Mo_section 138 = .ok (.aload_n 0, 1) := by decide +kernel
theorem d_Mo_section_139 : decode b_Mo_section 139 = .ok (.getfield 22, 3) := by decide +kernel
theorem d_Mo_section_142 : decode b_Mo_section 142 = .ok (.aload_n 0, 1) := by decide +kernel
theorem d_Mo_section_143 : decode b_Mo_section 143 = .ok (.getfield 143, 3) := by decide +kernel
theorem d_Mo_section_146 : decode b_Mo_section 146 = .ok (.iload 4, 2) := by decide +kernel
theorem d_Mo_section_148 : decode b_Mo_section 148 = .ok (.iastore, 1) := by decide +kernel
theorem d_Mo_section_149 : decode b_Mo_section 149 = .ok (.aload_n 0, 1) := by decide +kernel
theorem d_Mo_section_150 : decode b_Mo_section 150 = .ok (.getfield 25, 3) := by decide +kernel
theorem d_Mo_section_153 : decode b_Mo_section 153 = .ok (.aload_n 0, 1) := by decide +kernel
theorem d_Mo_section_154 : decode b_Mo_section 154 = .ok (.getfield 143, 3) := by decide +kernel
theorem d_Mo_section_157 : decode b_Mo_section 157 = .ok (.aload_n 0, 1) := by decide +kernel
theorem d_Mo_section_158 : decode b_Mo_section 158 = .ok (.getfield 150, 3) := by decide +kernel
theorem d_Mo_section_161 : decode b_Mo_section 161 = .ok (.iastore, 1) := by decide +kernel
theorem d_Mo_section_162 : decode b_Mo_section 162 = .ok (.aload_n 0, 1) := by decide +kernel
theorem d_Mo_section_163 : decode b_Mo_section 163 = .ok (.getfield 28, 3) := by decide +kernel
theorem d_Mo_section_166 : decode b_Mo_section 166 = .ok (.aload_n 0, 1) := by decide +kernel
theorem d_Mo_section_167 : decode b_Mo_section 167 = .ok (.getfield 143, 3) := by decide +kernel
theorem d_Mo_section_170 : decode b_Mo_section 170 = .ok (.iconst 0, 1) := by decide +kernel
theorem d_Mo_section_171 : decode b_Mo_section 171 = .ok (.bastore, 1) := by decide +kernel
theorem d_Mo_section_172 : decode b_Mo_section 172 = .ok (.aload_n 0, 1) := by decide +kernel
theorem d_Mo_section_173 : decode b_Mo_section 173 = .ok (.aload_n 0, 1) := by decide +kernel
theorem d_Mo_section_174 : decode b_Mo_section 174 = .ok (.getfield 146, 3) := by decide +kernel
theorem d_Mo_section_177 : decode b_Mo_section 177 = .ok (.iload_n 3, 1) := by decide +kernel
theorem d_Mo_section_178 : decode b_Mo_section 178 = .ok (.iadd, 1) := by decide +kernel
theorem d_Mo_section_179 : decode b_Mo_section 179 = .ok (.putfield 146, 3) := by decide +kernel
theorem d_Mo_section_182 : decode b_Mo_section 182 = .ok (.iconst 0, 1) := by decide +kernel
theorem d_Mo_section_183 : decode b_Mo_section 183 = .ok (.istore 6, 2) := by decide +kernel
theorem d_Mo_section_185 : decode b_Mo_section 185 = .ok (.iload_n 2, 1) := by decide +kernel
theorem d_Mo_section_186 : decode b_Mo_section 186 = .ok (.iconst 2, 1) := by decide +kernel
theorem d_Mo_section_187 : decode b_Mo_section 187 = .ok (.if_icmp .eq 37, 3) := by decide +kernel
theorem d_Mo_section_190 : decode b_Mo_section 190 = .ok (.iload 6, 2) := by decide +kernel
theorem d_Mo_section_192 : decode b_Mo_section 192 = .ok (.iload_n 3, 1) := by decide +kernel
theorem d_Mo_section_193 : decode b_Mo_section 193 = .ok (.iconst 4, 1) := by decide +kernel
theorem d_Mo_section_194 : decode b_Mo_section 194 = .ok (.idiv, 1) := by decide +kernel
theorem d_Mo_section_195 : decode b_Mo_section 195 = .ok (.if_icmp .ge 29, 3) := by decide +kernel
theorem d_Mo_section_198 : decode b_Mo_section 198 = .ok (.aload_n 0, 1) := by decide +kernel
theorem d_Mo_section_199 : decode b_Mo_section 199 = .ok (.getfield 33, 3) := by decide +kernel
theorem d_Mo_section_202 : decode b_Mo_section 202 = .ok (.aload_n 0, 1) := by decide +kernel
theorem d_Mo_section_203 : decode b_Mo_section 203 = .ok (.getfield 150, 3) := by decide +kernel
theorem d_Mo_section_206 : decode b_Mo_section 206 = .ok (.iconst 0, 1) := by decide +kernel
theorem d_Mo_section_207 : decode b_Mo_section 207 = .ok (.iastore, 1) := by decide +kernel
theorem d_Mo_section_208 : decode b_Mo_section 208 = .ok (.aload_n 0, 1) := by decide +kernel
theorem d_Mo_section_209 : decode b_Mo_section 209 = .ok (.dup, 1) := by decide +kernel
theorem d_Mo_section_210 : decode b_Mo_section 210 = .ok (.getfield 150, 3) := by decide +kernel
theorem d_Mo_section_213 : decode b_Mo_section 213 = .ok (.iconst 1, 1) := by decide +kernel
theorem d_Mo_section_214 : decode b_Mo_section 214 = .ok (.iadd, 1) := by decide +kernel
theorem d_Mo_section_215 : decode b_Mo_section 215 = .ok (.putfield 150, 3) := by decide +kernel
theorem d_Mo_section_218 : decode b_Mo_section 218 = .ok (.iinc 6 1, 3) := by decide +kernel
theorem d_Mo_section_221 : decode b_Mo_section 221 = .ok (.goto (-36), 3) := by decide +kernel
theorem d_Mo_section_224 : decode b_Mo_section 224 = .ok (.aload_n 0, 1) := by decide +kernel
theorem d_Mo_section_225 : decode b_Mo_section 225 = .ok (.dup, 1) := by decide +kernel
theorem d_Mo_section_226 : decode b_Mo_section 226 = .ok (.getfield 143, 3) := by decide +kernel
theorem d_Mo_section_229 : decode b_Mo_section 229 = .ok (.iconst 1, 1) := by decide +kernel
theorem d_Mo_section_230 : decode b_Mo_section 230 = .ok (.iadd, 1) := by decide +kernel
theorem d_Mo_section_231 : decode b_Mo_section 231 = .ok (.putfield 143, 3) := by decide +kernel
theorem d_Mo_section_234 : decode b_Mo_section 234 = .ok (.aload_n 0, 1) := by decide +kernel
theorem d_Mo_section_235 : decode b_Mo_section 235 = .ok (.getfield 143, 3) := by decide +kernel
theorem d_Mo_section_238 : decode b_Mo_section 238 = .ok (.iconst 1, 1) := by decide +kernel
theorem d_Mo_section_239 : decode b_Mo_section 239 = .ok (.isub, 1) := by decide +kernel
theorem d_Mo_section_240 : decode b_Mo_section 240 = .ok (.ireturn, 1) := by decide +kernel
theorem d_Mo_isPlace_0 : decode b_Mo_isPlace 0 = .ok (.iload_n 1, 1) := by decide +kernel
theorem d_Mo_isPlace_1 : decode b_Mo_isPlace 1 = .ok (.iconst 0, 1) := by decide +kernel
theorem d_Mo_isPlace_2 : decode b_Mo_isPlace 2 = .ok (.aload_n 0, 1) := by decide +kernel
theorem d_Mo_isPlace_3 : decode b_Mo_isPlace 3 = .ok (.getfield 143, 3) := by decide +kernel
theorem d_Mo_isPlace_6 : decode b_Mo_isPlace 6 = .ok (.iconst 1, 1) := by decide +kernel
theorem d_Mo_isPlace_7 : decode b_Mo_isPlace 7 = .ok (.isub, 1) := by decide +kernel
theorem d_Mo_isPlace_8 : decode b_Mo_isPlace 8 = .ok (.invokestatic 125, 3) := by decide +kernel
theorem d_Mo_isPlace_11 : decode b_Mo_isPlace 11 = .ok (.ifCond .eq 37, 3) := by decide +kernel
theorem d_Mo_isPlace_14 : decode b_Mo_isPlace 14 = .ok (.aload_n 0, 1) := by decide +kernel
theorem d_Mo_isPlace_15 : decode b_Mo_isPlace 15 = .ok (.getfield 16, 3) := by decide +kernel
theorem d_Mo_isPlace_18 : decode b_Mo_isPlace 18 = .ok (.iload_n 1, 1) := by decide +kernel
theorem d_Mo_isPlace_19 : decode b_Mo_isPlace 19 = .ok (.iaload, 1) := by decide +kernel
theorem d_Mo_isPlace_20 : decode b_Mo_isPlace 20 = .ok (.iconst 2, 1) := by decide +kernel
theorem d_Mo_isPlace_21 : decode b_Mo_isPlace 21 = .ok (.if_icmp .eq 27, 3) := by decide +kernel
theorem d_Mo_isPlace_24 : decode b_Mo_isPlace 24 = .ok (.iload_n 2, 1) := by decide +kernel
theorem d_Mo_isPlace_25 : decode b_Mo_isPlace 25 = .ok (.ifCond .lt 23, 3) := by decide +kernel
theorem d_Mo_isPlace_28 : decode b_Mo_isPlace 28 = .ok (.iload_n 2, 1) := by decide +kernel
theorem d_Mo_isPlace_29 : decode b_Mo_isPlace 29 = .ok (.aload_n 0, 1) := by decide +kernel
theorem d_Mo_isPlace_30 : decode b_Mo_isPlace 30 = .ok (.getfield 19, 3) := by decide +kernel
theorem d_Mo_isPlace_33 : decode b_Mo_isPlace 33 = .ok (.iload_n 1, 1) := by decide +kernel
theorem d_Mo_isPlace_34 : decode b_Mo_isPlace 34 = .ok (.iaload, 1) := by decide +kernel
theorem d_Mo_isPlace_35 : decode b_Mo_isPlace 35 = .ok (.if_icmp .ge 13, 3) := by decide +kernel
theorem d_Mo_isPlace_38 : decode b_Mo_isPlace 38 = .ok (.iload_n 2, 1) := by decide +kernel
theorem d_Mo_isPlace_39 : decode b_Mo_isPlace 39 = .ok (.iconst 4, 1) := by decide +kernel
theorem d_Mo_isPlace_40 : decode b_Mo_isPlace 40 = .ok (.irem, 1) := by decide +kernel
theorem d_Mo_isPlace_41 : decode b_Mo_isPlace 41 = .ok (.ifCond .ne 7, 3) := by decide +kernel
theorem d_Mo_isPlace_44 : decode b_Mo_isPlace 44 = .ok (.iconst 1, 1) := by decide +kernel
theorem d_Mo_isPlace_45 : decode b_Mo_isPlace 45 = .ok (.goto 4, 3) := by decide +kernel
theorem d_Mo_isPlace_48 : decode b_Mo_isPlace 48 = .ok (.iconst 0, 1) := by decide +kernel
theorem d_Mo_isPlace_49 : decode b_Mo_isPlace 49 = .ok (.ireturn, 1) := by decide +kernel
theorem d_Mo_word_0 : decode b_Mo_word 0 = .ok (.aload_n 0, 1) := by decide +kernel
theorem d_Mo_word_1 : decode b_Mo_word 1 = .ok (.aload_n 0, 1) := by decide +kernel
theorem d_Mo_word_2 : decode b_Mo_word 2 = .ok (.iload_n 1, 1) := by decide +kernel
theorem d_Mo_word_3 : decode b_Mo_word 3 = .ok (.iload_n 2, 1) := by decide +kernel
theorem d_Mo_word_4 : decode b_Mo_word 4 = .ok (.invokevirtual 153, 3) := by decide +kernel
theorem d_Mo_word_7 : decode b_Mo_word 7 = .ok (.ifCond .ne 7, 3) := by decide +kernel
theorem d_Mo_word_10 : decode b_Mo_word 10 = .ok (.iconst 1, 1) := by decide +kernel
theorem d_Mo_word_11 : decode b_Mo_word 11 = .ok (.goto 4, 3) := by decide +kernel
theorem d_Mo_word_14 : decode b_Mo_word 14 = .ok (.iconst 0, 1) := by decide +kernel
theorem d_Mo_word_15 : decode b_Mo_word 15 = .ok (.iconst 0, 1) := by decide +kernel
theorem d_Mo_word_16 : decode b_Mo_word 16 = .ok (.invokevirtual 132, 3) := by decide +kernel
theorem d_Mo_word_19 : decode b_Mo_word 19 = .ok (.ifCond .eq 4, 3) := by decide +kernel
theorem d_Mo_word_22 : decode b_Mo_word 22 = .ok (.return_, 1) := by decide +kernel
theorem d_Mo_word_23 : decode b_Mo_word 23 = .ok (.aload_n 0, 1) := by decide +kernel
theorem d_Mo_word_24 : decode b_Mo_word 24 = .ok (.invokevirtual 136, 3) := by decide +kernel
theorem d_Mo_word_27 : decode b_Mo_word 27 = .ok (.aload_n 0, 1) := by decide +kernel
theorem d_Mo_word_28 : decode b_Mo_word 28 = .ok (.getfield 33, 3) := by decide +kernel
theorem d_Mo_word_31 : decode b_Mo_word 31 = .ok (.aload_n 0, 1) := by decide +kernel
theorem d_Mo_word_32 : decode b_Mo_word 32 = .ok (.getfield 25, 3) := by decide +kernel
theorem d_Mo_word_35 : decode b_Mo_word 35 = .ok (.iload_n 1, 1) := by decide +kernel
theorem d_Mo_word_36 : decode b_Mo_word 36 = .ok (.iaload, 1) := by decide +kernel
theorem d_Mo_word_37 : decode b_Mo_word 37 = .ok (.iload_n 2, 1) := by decide +kernel
theorem d_Mo_word_38 : decode b_Mo_word 38 = .ok (.iconst 4, 1) := by decide +kernel
theorem d_Mo_word_39 : decode b_Mo_word 39 = .ok (.idiv, 1) := by decide +kernel
theorem d_Mo_word_40 : decode b_Mo_word 40 = .ok (.iadd, 1) := by decide +kernel
theorem d_Mo_word_41 : decode b_Mo_word 41 = .ok (.iload_n 3, 1) := by decide +kernel
theorem d_Mo_word_42 : decode b_Mo_word 42 = .ok (.iastore, 1) := by decide +kernel
theorem d_Mo_word_43 : decode b_Mo_word 43 = .ok (.return_, 1) := by decide +kernel
theorem d_Mo_hasName_0 : decode b_Mo_hasName 0 = .ok (.iconst 0, 1) := by decide +kernel
theorem d_Mo_hasName_1 : decode b_Mo_hasName 1 = .ok (.istore 4, 2) := by decide +kernel
theorem d_Mo_hasName_3 : decode b_Mo_hasName 3 = .ok (.iconst 0, 1) := by decide +kernel
theorem d_Mo_hasName_4 : decode b_Mo_hasName 4 = .ok (.istore 5, 2) := by decide +kernel
theorem d_Mo_hasName_6 : decode b_Mo_hasName 6 = .ok (.iload 5, 2) := by decide +kernel
theorem d_Mo_hasName_8 : decode b_Mo_hasName 8 = .ok (.aload_n 0, 1) := by decide +kernel
theorem d_Mo_hasName_9 : decode b_Mo_hasName 9 = .ok (.getfield 157, 3) := by decide +kernel
theorem d_Mo_hasName_12 : decode b_Mo_hasName 12 = .ok (.if_icmp .ge 57, 3) := by decide +kernel
theorem d_Mo_hasName_15 : decode b_Mo_hasName 15 = .ok (.iload 4, 2) := by decide +kernel
theorem d_Mo_hasName_17 : decode b_Mo_hasName 17 = .ok (.ifCond .ne 39, 3) := by decide +kernel
theorem d_Mo_hasName_20 : decode b_Mo_hasName 20 = .ok (.aload_n 0, 1) := by decide +kernel
theorem d_Mo_hasName_21 : decode b_Mo_hasName 21 = .ok (.getfield 36, 3) := by decide +kernel
theorem d_Mo_hasName_24 : decode b_Mo_hasName 24 = .ok (.iload 5, 2) := by decide +kernel
theorem d_Mo_hasName_26 : decode b_Mo_hasName 26 = .ok (.iaload, 1) := by decide +kernel
theorem d_Mo_hasName_27 : decode b_Mo_hasName 27 = .ok (.iload_n 1, 1) := by decide +kernel
theorem d_Mo_hasName_28 : decode b_Mo_hasName 28 = .ok (.if_icmp .ne 32, 3) := by decide +kernel
theorem d_Mo_hasName_31 : decode b_Mo_hasName 31 = .ok (.aload_n 0, 1) := by decide +kernel
theorem d_Mo_hasName_32 : decode b_Mo_hasName 32 = .ok (.getfield 48, 3) := by decide +kernel
theorem d_Mo_hasName_35 : decode b_Mo_hasName 35 = .ok (.iload 5, 2) := by decide +kernel
theorem d_Mo_hasName_37 : decode b_Mo_hasName 37 = .ok (.iaload, 1) := by decide +kernel
theorem d_Mo_hasName_38 : decode b_Mo_hasName 38 = .ok (.iload_n 2, 1) := by decide +kernel
theorem d_Mo_hasName_39 : decode b_Mo_hasName 39 = .ok (.if_icmp .ne 21, 3) := by decide +kernel
theorem d_Mo_hasName_42 : decode b_Mo_hasName 42 = .ok (.aload_n 0, 1) := by decide +kernel
theorem d_Mo_hasName_43 : decode b_Mo_hasName 43 = .ok (.getfield 51, 3) := by decide +kernel
theorem d_Mo_hasName_46 : decode b_Mo_hasName 46 = .ok (.iload 5, 2) := by decide +kernel
theorem d_Mo_hasName_48 : decode b_Mo_hasName 48 = .ok (.iaload, 1) := by decide +kernel
theorem d_Mo_hasName_49 : decode b_Mo_hasName 49 = .ok (.ifCond .eq 11, 3) := by decide +kernel
theorem d_Mo_hasName_52 : decode b_Mo_hasName 52 = .ok (.iload_n 3, 1) := by decide +kernel
theorem d_Mo_hasName_53 : decode b_Mo_hasName 53 = .ok (.ifCond .eq 7, 3) := by decide +kernel
theorem d_Mo_hasName_56 : decode b_Mo_hasName 56 = .ok (.iconst 1, 1) := by decide +kernel
theorem d_Mo_hasName_57 : decode b_Mo_hasName 57 = .ok (.goto 4, 3) := by decide +kernel
theorem d_Mo_hasName_60 : decode b_Mo_hasName 60 = .ok (.iconst 0, 1) := by decide +kernel
theorem d_Mo_hasName_61 : decode b_Mo_hasName 61 = .ok (.istore 4, 2) := by decide +kernel
theorem d_Mo_hasName_63 : decode b_Mo_hasName 63 = .ok (.iinc 5 1, 3) := by decide +kernel
theorem d_Mo_hasName_66 : decode b_Mo_hasName 66 = .ok (.goto (-60), 3) := by decide +kernel
theorem d_Mo_hasName_69 : decode b_Mo_hasName 69 = .ok (.iload 4, 2) := by decide +kernel
theorem d_Mo_hasName_71 : decode b_Mo_hasName 71 = .ok (.ireturn, 1) := by decide +kernel
theorem d_Mo_newSymbol_0 : decode b_Mo_newSymbol 0 = .ok (.aload_n 0, 1) := by decide +kernel
theorem d_Mo_newSymbol_1 : decode b_Mo_newSymbol 1 = .ok (.invokevirtual 136, 3) := by decide +kernel
theorem d_Mo_newSymbol_4 : decode b_Mo_newSymbol 4 = .ok (.aload_n 0, 1) := by decide +kernel
theorem d_Mo_newSymbol_5 : decode b_Mo_newSymbol 5 = .ok (.getfield 36, 3) := by decide +kernel
theorem d_Mo_newSymbol_8 : decode b_Mo_newSymbol 8 = .ok (.aload_n 0, 1) := by decide +kernel
theorem d_Mo_newSymbol_9 : decode b_Mo_newSymbol 9 = .ok (.getfield 157, 3) := by decide +kernel
theorem d_Mo_newSymbol_12 : decode b_Mo_newSymbol 12 = .ok (.iload_n 1, 1) := by decide +kernel
theorem d_Mo_newSymbol_13 : decode b_Mo_newSymbol 13 = .ok (.iastore, 1) := by decide +kernel
theorem d_Mo_newSymbol_14 : decode b_Mo_newSymbol 14 = .ok (.aload_n 0, 1) := by decide +kernel
theorem d_Mo_newSymbol_15 : decode b_Mo_newSymbol 15 = .ok (.getfield 39, 3) := by decide +kernel
theorem d_Mo_newSymbol_18 : decode b_Mo_newSymbol 18 = .ok (.aload_n 0, 1) := by decide +kernel
theorem d_Mo_newSymbol_19 : decode b_Mo_newSymbol 19 = .ok (.getfield 157, 3) := by decide +kernel
theorem d_Mo_newSymbol_22 : decode b_Mo_newSymbol 22 = .ok (.iload_n 2, 1) := by decide +kernel
theorem d_Mo_newSymbol_23 : decode b_Mo_newSymbol 23 = .ok (.iastore, 1) := by decide +kernel
theorem d_Mo_newSymbol_24 : decode b_Mo_newSymbol 24 = .ok (.aload_n 0, 1) := by decide +kernel
theorem d_Mo_newSymbol_25 : decode b_Mo_newSymbol 25 = .ok (.getfield 42, 3) := by decide +kernel
theorem d_Mo_newSymbol_28 : decode b_Mo_newSymbol 28 = .ok (.aload_n 0, 1) := by decide +kernel
theorem d_Mo_newSymbol_29 : decode b_Mo_newSymbol 29 = .ok (.getfield 157, 3) := by decide +kernel
theorem d_Mo_newSymbol_32 : decode b_Mo_newSymbol 32 = .ok (.iload_n 3, 1) := by decide +kernel
theorem d_Mo_newSymbol_33 : decode b_Mo_newSymbol 33 = .ok (.iastore, 1) := by decide +kernel
theorem d_Mo_newSymbol_34 : decode b_Mo_newSymbol 34 = .ok (.aload_n 0, 1) := by decide +kernel
theorem d_Mo_newSymbol_35 : decode b_Mo_newSymbol 35 = .ok (.getfield 45, 3) := by decide +kernel
theorem d_Mo_newSymbol_38 : decode b_Mo_newSymbol 38 = .ok (.aload_n 0, 1) := by decide +kernel
theorem d_Mo_newSymbol_39 : decode b_Mo_newSymbol 39 = .ok (.getfield 157, 3) := by decide +kernel
theorem d_Mo_newSymbol_42 : decode b_Mo_newSymbol 42 = .ok (.iload 4, 2) := by decide +kernel
theorem d_Mo_newSymbol_44 : decode b_Mo_newSymbol 44 = .ok (.iastore, 1) := by decide +kernel
theorem d_Mo_newSymbol_45 : decode b_Mo_newSymbol 45 = .ok (.aload_n 0, 1) := by decide +kernel
theorem d_Mo_newSymbol_46 : decode b_Mo_newSymbol 46 = .ok (.getfield 48, 3) := by decide +kernel
theorem d_Mo_newSymbol_49 : decode b_Mo_newSymbol 49 = .ok (.aload_n 0, 1) := by decide +kernel
theorem d_Mo_newSymbol_50 : decode b_Mo_newSymbol 50 = .ok (.getfield 157, 3) := by decide +kernel
theorem d_Mo_newSymbol_53 : decode b_Mo_newSymbol 53 = .ok (.iload 5, 2) := by decide +kernel
theorem d_Mo_newSymbol_55 : decode b_Mo_newSymbol 55 = .ok (.iastore, 1) := by decide +kernel
theorem d_Mo_newSymbol_56 : decode b_Mo_newSymbol 56 = .ok (.aload_n 0, 1) := by decide +kernel
theorem d_Mo_newSymbol_57 : decode b_Mo_newSymbol 57 = .ok (.getfield 51, 3) := by decide +kernel
theorem d_Mo_newSymbol_60 : decode b_Mo_newSymbol 60 = .ok (.aload_n 0, 1) := by decide +kernel
theorem d_Mo_newSymbol_61 : decode b_Mo_newSymbol 61 = .ok (.getfield 157, 3) := by decide +kernel
theorem d_Mo_newSymbol_64 : decode b_Mo_newSymbol 64 = .ok (.iload 6, 2) := by decide +kernel
theorem d_Mo_newSymbol_66 : decode b_Mo_newSymbol 66 = .ok (.iastore, 1) := by decide +kernel
theorem d_Mo_newSymbol_67 : decode b_Mo_newSymbol 67 = .ok (.aload_n 0, 1) := by decide +kernel
theorem d_Mo_newSymbol_68 : decode b_Mo_newSymbol 68 = .ok (.dup, 1) := by decide +kernel
theorem d_Mo_newSymbol_69 : decode b_Mo_newSymbol 69 = .ok (.getfield 157, 3) := by decide +kernel
theorem d_Mo_newSymbol_72 : decode b_Mo_newSymbol 72 = .ok (.iconst 1, 1) := by decide +kernel
theorem d_Mo_newSymbol_73 : decode b_Mo_newSymbol 73 = .ok (.iadd, 1) := by decide +kernel
theorem d_Mo_newSymbol_74 : decode b_Mo_newSymbol 74 = .ok (.putfield 157, 3) := by decide +kernel
theorem d_Mo_newSymbol_77 : decode b_Mo_newSymbol 77 = .ok (.aload_n 0, 1) := by decide +kernel
theorem d_Mo_newSymbol_78 : decode b_Mo_newSymbol 78 = .ok (.getfield 157, 3) := by decide +kernel
theorem d_Mo_newSymbol_81 : decode b_Mo_newSymbol 81 = .ok (.iconst 1, 1) := by decide +kernel
theorem d_Mo_newSymbol_82 : decode b_Mo_newSymbol 82 = .ok (.isub, 1) := by decide +kernel
theorem d_Mo_newSymbol_83 : decode b_Mo_newSymbol 83 = .ok (.ireturn, 1) := by decide +kernel
