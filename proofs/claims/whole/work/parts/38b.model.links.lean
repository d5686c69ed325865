theorem kb_7 : (Int8.ofInt 7).toInt32 = 7 := by decide
theorem d_Mo_means_0 : decode b_Mo_means 0 = .ok (.aload_n 0, 1) := by decide +kernel
theorem d_Mo_means_1 : decode b_Mo_means 1 = .ok (.aload_n 0, 1) := by decide +kernel
theorem d_Mo_means_2 : decode b_Mo_means 2 = .ok (.getfield 118, 3) := by decide +kernel
theorem d_Mo_means_5 : decode b_Mo_means 5 = .ok (.ifCond .ne 7, 3) := by decide +kernel
theorem d_Mo_means_8 : decode b_Mo_means 8 = .ok (.iconst 1, 1) := by decide +kernel
theorem d_Mo_means_9 : decode b_Mo_means 9 = .ok (.goto 4, 3) := by decide +kernel
theorem d_Mo_means_12 : decode b_Mo_means 12 = .ok (.iconst 0, 1) := by decide +kernel
theorem d_Mo_means_13 : decode b_Mo_means 13 = .ok (.aload_n 0, 1) := by decide +kernel
theorem d_Mo_means_14 : decode b_Mo_means 14 = .ok (.getfield 118, 3) := by decide +kernel
theorem d_Mo_means_17 : decode b_Mo_means 17 = .ok (.ifCond .eq 30, 3) := by decide +kernel
theorem d_Mo_means_20 : decode b_Mo_means 20 = .ok (.iload_n 1, 1) := by decide +kernel
theorem d_Mo_means_21 : decode b_Mo_means 21 = .ok (.iconst 0, 1) := by decide +kernel
theorem d_Mo_means_22 : decode b_Mo_means 22 = .ok (.aload_n 0, 1) := by decide +kernel
theorem d_Mo_means_23 : decode b_Mo_means 23 = .ok (.getfield 157, 3) := by decide +kernel
theorem d_Mo_means_26 : decode b_Mo_means 26 = .ok (.iconst 1, 1) := by decide +kernel
theorem d_Mo_means_27 : decode b_Mo_means 27 = .ok (.isub, 1) := by decide +kernel
theorem d_Mo_means_28 : decode b_Mo_means 28 = .ok (.invokestatic 125, 3) := by decide +kernel
theorem d_Mo_means_31 : decode b_Mo_means 31 = .ok (.ifCond .eq 12, 3) := by decide +kernel
theorem d_Mo_means_34 : decode b_Mo_means 34 = .ok (.iload_n 2, 1) := by decide +kernel
theorem d_Mo_means_35 : decode b_Mo_means 35 = .ok (.iconst 0, 1) := by decide +kernel
theorem d_Mo_means_36 : decode b_Mo_means 36 = .ok (.iconst 2, 1) := by decide +kernel
theorem d_Mo_means_37 : decode b_Mo_means 37 = .ok (.invokestatic 125, 3) := by decide +kernel
theorem d_Mo_means_40 : decode b_Mo_means 40 = .ok (.ifCond .ne 7, 3) := by decide +kernel
theorem d_Mo_means_43 : decode b_Mo_means 43 = .ok (.iconst 1, 1) := by decide +kernel
theorem d_Mo_means_44 : decode b_Mo_means 44 = .ok (.goto 4, 3) := by decide +kernel
theorem d_Mo_means_47 : decode b_Mo_means 47 = .ok (.iconst 0, 1) := by decide +kernel
theorem d_Mo_means_48 : decode b_Mo_means 48 = .ok (.invokevirtual 132, 3) := by decide +kernel
theorem d_Mo_means_51 : decode b_Mo_means 51 = .ok (.ifCond .eq 5, 3) := by decide +kernel
theorem d_Mo_means_54 : decode b_Mo_means 54 = .ok (.iconst 0, 1) := by decide +kernel
theorem d_Mo_means_55 : decode b_Mo_means 55 = .ok (.ireturn, 1) := by decide +kernel
theorem d_Mo_means_56 : decode b_Mo_means 56 = .ok (.aload_n 0, 1) := by decide +kernel
theorem d_Mo_means_57 : decode b_Mo_means 57 = .ok (.getfield 79, 3) := by decide +kernel
theorem d_Mo_means_60 : decode b_Mo_means 60 = .ok (.aload_n 0, 1) := by decide +kernel
theorem d_Mo_means_61 : decode b_Mo_means 61 = .ok (.getfield 36, 3) := by decide +kernel
theorem d_Mo_means_64 : decode b_Mo_means 64 = .ok (.iload_n 1, 1) := by decide +kernel
theorem d_Mo_means_65 : decode b_Mo_means 65 = .ok (.iaload, 1) := by decide +kernel
theorem d_Mo_means_66 : decode b_Mo_means 66 = .ok (.baload, 1) := by decide +kernel
theorem d_Mo_means_67 : decode b_Mo_means 67 = .ok (.istore_n 3, 1) := by decide +kernel
theorem d_Mo_means_68 : decode b_Mo_means 68 = .ok (.iload_n 3, 1) := by decide +kernel
theorem d_Mo_means_69 : decode b_Mo_means 69 = .ok (.ifCond .eq 11, 3) := by decide +kernel
theorem d_Mo_means_72 : decode b_Mo_means 72 = .ok (.aload_n 0, 1) := by decide +kernel
theorem d_Mo_means_73 : decode b_Mo_means 73 = .ok (.iload_n 1, 1) := by decide +kernel
theorem d_Mo_means_74 : decode b_Mo_means 74 = .ok (.invokevirtual 198, 3) := by decide +kernel
theorem d_Mo_means_77 : decode b_Mo_means 77 = .ok (.goto 4, 3) := by decide +kernel
theorem d_Mo_means_80 : decode b_Mo_means 80 = .ok (.iconst (-1), 1) := by decide +kernel
theorem d_Mo_means_81 : decode b_Mo_means 81 = .ok (.istore 4, 2) := by decide +kernel
theorem d_Mo_means_83 : decode b_Mo_means 83 = .ok (.iload_n 2, 1) := by decide +kernel
theorem d_Mo_means_84 : decode b_Mo_means 84 = .ok (.ifCond .ne 6, 3) := by decide +kernel
theorem d_Mo_means_87 : decode b_Mo_means 87 = .ok (.iload 4, 2) := by decide +kernel
theorem d_Mo_means_89 : decode b_Mo_means 89 = .ok (.ireturn, 1) := by decide +kernel
theorem d_Mo_means_90 : decode b_Mo_means 90 = .ok (.iload_n 2, 1) := by decide +kernel
theorem d_Mo_means_91 : decode b_Mo_means 91 = .ok (.iconst 1, 1) := by decide +kernel
theorem d_Mo_means_92 : decode b_Mo_means 92 = .ok (.if_icmp .ne 19, 3) := by decide +kernel
theorem d_Mo_means_95 : decode b_Mo_means 95 = .ok (.iload 4, 2) := by decide +kernel
theorem d_Mo_means_97 : decode b_Mo_means 97 = .ok (.iconst 1, 1) := by decide +kernel
theorem d_Mo_means_98 : decode b_Mo_means 98 = .ok (.if_icmp .ne 11, 3) := by decide +kernel
theorem d_Mo_means_101 : decode b_Mo_means 101 = .ok (.aload_n 0, 1) := by decide +kernel
theorem d_Mo_means_102 : decode b_Mo_means 102 = .ok (.iload_n 1, 1) := by decide +kernel
theorem d_Mo_means_103 : decode b_Mo_means 103 = .ok (.invokevirtual 204, 3) := by decide +kernel
theorem d_Mo_means_106 : decode b_Mo_means 106 = .ok (.goto 4, 3) := by decide +kernel
theorem d_Mo_means_109 : decode b_Mo_means 109 = .ok (.iconst (-1), 1) := by decide +kernel
theorem d_Mo_means_110 : decode b_Mo_means 110 = .ok (.ireturn, 1) := by decide +kernel
theorem d_Mo_means_111 : decode b_Mo_means 111 = .ok (.iload 4, 2) := by decide +kernel
theorem d_Mo_means_113 : decode b_Mo_means 113 = .ok (.iconst 2, 1) := by decide +kernel
theorem d_Mo_means_114 : decode b_Mo_means 114 = .ok (.if_icmp .eq 42, 3) := by decide +kernel
theorem d_Mo_means_117 : decode b_Mo_means 117 = .ok (.iload 4, 2) := by decide +kernel
theorem d_Mo_means_119 : decode b_Mo_means 119 = .ok (.iconst 1, 1) := by decide +kernel
theorem d_Mo_means_120 : decode b_Mo_means 120 = .ok (.if_icmp .ne 16, 3) := by decide +kernel
theorem d_Mo_means_123 : decode b_Mo_means 123 = .ok (.aload_n 0, 1) := by decide +kernel
theorem d_Mo_means_124 : decode b_Mo_means 124 = .ok (.getfield 94, 3) := by decide +kernel
theorem d_Mo_means_127 : decode b_Mo_means 127 = .ok (.aload_n 0, 1) := by decide +kernel
theorem d_Mo_means_128 : decode b_Mo_means 128 = .ok (.iload_n 1, 1) := by decide +kernel
theorem d_Mo_means_129 : decode b_Mo_means 129 = .ok (.invokevirtual 204, 3) := by decide +kernel
theorem d_Mo_means_132 : decode b_Mo_means 132 = .ok (.baload, 1) := by decide +kernel
theorem d_Mo_means_133 : decode b_Mo_means 133 = .ok (.ifCond .ne 23, 3) := by decide +kernel
theorem d_Mo_means_136 : decode b_Mo_means 136 = .ok (.iload 4, 2) := by decide +kernel
theorem d_Mo_means_138 : decode b_Mo_means 138 = .ok (.iconst 3, 1) := by decide +kernel
theorem d_Mo_means_139 : decode b_Mo_means 139 = .ok (.if_icmp .ne 21, 3) := by decide +kernel
theorem d_Mo_means_142 : decode b_Mo_means 142 = .ok (.aload_n 0, 1) := by decide +kernel
theorem d_Mo_means_143 : decode b_Mo_means 143 = .ok (.getfield 88, 3) := by decide +kernel
theorem d_Mo_means_146 : decode b_Mo_means 146 = .ok (.aload_n 0, 1) := by decide +kernel
theorem d_Mo_means_147 : decode b_Mo_means 147 = .ok (.getfield 48, 3) := by decide +kernel
theorem d_Mo_means_150 : decode b_Mo_means 150 = .ok (.iload_n 1, 1) := by decide +kernel
theorem d_Mo_means_151 : decode b_Mo_means 151 = .ok (.iaload, 1) := by decide +kernel
theorem d_Mo_means_152 : decode b_Mo_means 152 = .ok (.baload, 1) := by decide +kernel
theorem d_Mo_means_153 : decode b_Mo_means 153 = .ok (.ifCond .eq 7, 3) := by decide +kernel
theorem d_Mo_means_156 : decode b_Mo_means 156 = .ok (.iconst 1, 1) := by decide +kernel
theorem d_Mo_means_157 : decode b_Mo_means 157 = .ok (.goto 4, 3) := by decide +kernel
theorem d_Mo_means_160 : decode b_Mo_means 160 = .ok (.iconst 0, 1) := by decide +kernel
theorem d_Mo_means_161 : decode b_Mo_means 161 = .ok (.istore 5, 2) := by decide +kernel
theorem d_Mo_means_163 : decode b_Mo_means 163 = .ok (.iload 5, 2) := by decide +kernel
theorem d_Mo_means_165 : decode b_Mo_means 165 = .ok (.ifCond .eq 11, 3) := by decide +kernel
theorem d_Mo_means_168 : decode b_Mo_means 168 = .ok (.aload_n 0, 1) := by decide +kernel
theorem d_Mo_means_169 : decode b_Mo_means 169 = .ok (.iload_n 1, 1) := by decide +kernel
theorem d_Mo_means_170 : decode b_Mo_means 170 = .ok (.invokevirtual 256, 3) := by decide +kernel
theorem d_Mo_means_173 : decode b_Mo_means 173 = .ok (.goto 4, 3) := by decide +kernel
theorem d_Mo_means_176 : decode b_Mo_means 176 = .ok (.iconst 0, 1) := by decide +kernel
theorem d_Mo_means_177 : decode b_Mo_means 177 = .ok (.ireturn, 1) := by decide +kernel
theorem d_Mo_common_0 : decode b_Mo_common 0 = .ok (.aload_n 0, 1) := by decide +kernel
theorem d_Mo_common_1 : decode b_Mo_common 1 = .ok (.aload_n 0, 1) := by decide +kernel
theorem d_Mo_common_2 : decode b_Mo_common 2 = .ok (.getfield 118, 3) := by decide +kernel
theorem d_Mo_common_5 : decode b_Mo_common 5 = .ok (.ifCond .ne 7, 3) := by decide +kernel
theorem d_Mo_common_8 : decode b_Mo_common 8 = .ok (.iconst 1, 1) := by decide +kernel
theorem d_Mo_common_9 : decode b_Mo_common 9 = .ok (.goto 4, 3) := by decide +kernel
theorem d_Mo_common_12 : decode b_Mo_common 12 = .ok (.iconst 0, 1) := by decide +kernel
theorem d_Mo_common_13 : decode b_Mo_common 13 = .ok (.aload_n 0, 1) := by decide +kernel
theorem d_Mo_common_14 : decode b_Mo_common 14 = .ok (.getfield 118, 3) := by decide +kernel
theorem d_Mo_common_17 : decode b_Mo_common 17 = .ok (.ifCond .eq 18, 3) := by decide +kernel
theorem d_Mo_common_20 : decode b_Mo_common 20 = .ok (.iload_n 1, 1) := by decide +kernel
theorem d_Mo_common_21 : decode b_Mo_common 21 = .ok (.iconst 0, 1) := by decide +kernel
theorem d_Mo_common_22 : decode b_Mo_common 22 = .ok (.sipush 199, 3) := by decide +kernel
theorem d_Mo_common_25 : decode b_Mo_common 25 = .ok (.invokestatic 125, 3) := by decide +kernel
theorem d_Mo_common_28 : decode b_Mo_common 28 = .ok (.ifCond .ne 7, 3) := by decide +kernel
theorem d_Mo_common_31 : decode b_Mo_common 31 = .ok (.iconst 1, 1) := by decide +kernel
theorem d_Mo_common_32 : decode b_Mo_common 32 = .ok (.goto 4, 3) := by decide +kernel
theorem d_Mo_common_35 : decode b_Mo_common 35 = .ok (.iconst 0, 1) := by decide +kernel
theorem d_Mo_common_36 : decode b_Mo_common 36 = .ok (.invokevirtual 132, 3) := by decide +kernel
theorem d_Mo_common_39 : decode b_Mo_common 39 = .ok (.ifCond .eq 5, 3) := by decide +kernel
theorem d_Mo_common_42 : decode b_Mo_common 42 = .ok (.iconst 0, 1) := by decide +kernel
theorem d_Mo_common_43 : decode b_Mo_common 43 = .ok (.ireturn, 1) := by decide +kernel
theorem d_Mo_common_44 : decode b_Mo_common 44 = .ok (.aload_n 0, 1) := by decide +kernel
theorem d_Mo_common_45 : decode b_Mo_common 45 = .ok (.getfield 88, 3) := by decide +kernel
theorem d_Mo_common_48 : decode b_Mo_common 48 = .ok (.iload_n 1, 1) := by decide +kernel
theorem d_Mo_common_49 : decode b_Mo_common 49 = .ok (.baload, 1) := by decide +kernel
theorem d_Mo_common_50 : decode b_Mo_common 50 = .ok (.ifCond .eq 12, 3) := by decide +kernel
theorem d_Mo_common_53 : decode b_Mo_common 53 = .ok (.aload_n 0, 1) := by decide +kernel
theorem d_Mo_common_54 : decode b_Mo_common 54 = .ok (.getfield 91, 3) := by decide +kernel
theorem d_Mo_common_57 : decode b_Mo_common 57 = .ok (.iload_n 1, 1) := by decide +kernel
theorem d_Mo_common_58 : decode b_Mo_common 58 = .ok (.iaload, 1) := by decide +kernel
theorem d_Mo_common_59 : decode b_Mo_common 59 = .ok (.goto 4, 3) := by decide +kernel
theorem d_Mo_common_62 : decode b_Mo_common 62 = .ok (.iconst (-1), 1) := by decide +kernel
theorem d_Mo_common_63 : decode b_Mo_common 63 = .ok (.ireturn, 1) := by decide +kernel
theorem d_Mo_at_0 : decode b_Mo_at 0 = .ok (.aload_n 0, 1) := by decide +kernel
theorem d_Mo_at_1 : decode b_Mo_at 1 = .ok (.aload_n 0, 1) := by decide +kernel
theorem d_Mo_at_2 : decode b_Mo_at 2 = .ok (.getfield 118, 3) := by decide +kernel
theorem d_Mo_at_5 : decode b_Mo_at 5 = .ok (.ifCond .ne 7, 3) := by decide +kernel
theorem d_Mo_at_8 : decode b_Mo_at 8 = .ok (.iconst 1, 1) := by decide +kernel
theorem d_Mo_at_9 : decode b_Mo_at 9 = .ok (.goto 4, 3) := by decide +kernel
theorem d_Mo_at_12 : decode b_Mo_at 12 = .ok (.iconst 0, 1) := by decide +kernel
theorem d_Mo_at_13 : decode b_Mo_at 13 = .ok (.aload_n 0, 1) := by decide +kernel
theorem d_Mo_at_14 : decode b_Mo_at 14 = .ok (.getfield 118, 3) := by decide +kernel
theorem d_Mo_at_17 : decode b_Mo_at 17 = .ok (.ifCond .eq 30, 3) := by decide +kernel
theorem d_Mo_at_20 : decode b_Mo_at 20 = .ok (.iload_n 1, 1) := by decide +kernel
theorem d_Mo_at_21 : decode b_Mo_at 21 = .ok (.iconst 4, 1) := by decide +kernel
theorem d_Mo_at_22 : decode b_Mo_at 22 = .ok (.irem, 1) := by decide +kernel
theorem d_Mo_at_23 : decode b_Mo_at 23 = .ok (.ifCond .ne 20, 3) := by decide +kernel
theorem d_Mo_at_26 : decode b_Mo_at 26 = .ok (.iload_n 1, 1) := by decide +kernel
theorem d_Mo_at_27 : decode b_Mo_at 27 = .ok (.aload_n 0, 1) := by decide +kernel
theorem d_Mo_at_28 : decode b_Mo_at 28 = .ok (.getfield 235, 3) := by decide +kernel
theorem d_Mo_at_31 : decode b_Mo_at 31 = .ok (.aload_n 0, 1) := by decide +kernel
theorem d_Mo_at_32 : decode b_Mo_at 32 = .ok (.getfield 247, 3) := by decide +kernel
theorem d_Mo_at_35 : decode b_Mo_at 35 = .ok (.iconst 1, 1) := by decide +kernel
theorem d_Mo_at_36 : decode b_Mo_at 36 = .ok (.isub, 1) := by decide +kernel
theorem d_Mo_at_37 : decode b_Mo_at 37 = .ok (.invokestatic 125, 3) := by decide +kernel
theorem d_Mo_at_40 : decode b_Mo_at 40 = .ok (.ifCond .ne 7, 3) := by decide +kernel
theorem d_Mo_at_43 : decode b_Mo_at 43 = .ok (.iconst 1, 1) := by decide +kernel
theorem d_Mo_at_44 : decode b_Mo_at 44 = .ok (.goto 4, 3) := by decide +kernel
theorem d_Mo_at_47 : decode b_Mo_at 47 = .ok (.iconst 0, 1) := by decide +kernel
theorem d_Mo_at_48 : decode b_Mo_at 48 = .ok (.invokevirtual 132, 3) := by decide +kernel
theorem d_Mo_at_51 : decode b_Mo_at 51 = .ok (.ifCond .eq 5, 3) := by decide +kernel
theorem d_Mo_at_54 : decode b_Mo_at 54 = .ok (.iconst 0, 1) := by decide +kernel
theorem d_Mo_at_55 : decode b_Mo_at 55 = .ok (.ireturn, 1) := by decide +kernel
theorem d_Mo_at_56 : decode b_Mo_at 56 = .ok (.iconst 0, 1) := by decide +kernel
theorem d_Mo_at_57 : decode b_Mo_at 57 = .ok (.istore_n 2, 1) := by decide +kernel
theorem d_Mo_at_58 : decode b_Mo_at 58 = .ok (.iload_n 2, 1) := by decide +kernel
theorem d_Mo_at_59 : decode b_Mo_at 59 = .ok (.aload_n 0, 1) := by decide +kernel
theorem d_Mo_at_60 : decode b_Mo_at 60 = .ok (.getfield 143, 3) := by decide +kernel
theorem d_Mo_at_63 : decode b_Mo_at 63 = .ok (.if_icmp .ge 78, 3) := by decide +kernel
theorem d_Mo_at_66 : decode b_Mo_at 66 = .ok (.aload_n 0, 1) := by decide +kernel
theorem d_Mo_at_67 : decode b_Mo_at 67 = .ok (.iload_n 2, 1) := by decide +kernel
theorem d_Mo_at_68 : decode b_Mo_at 68 = .ok (.invokevirtual 226, 3) := by decide +kernel
theorem d_Mo_at_71 : decode b_Mo_at 71 = .ok (.ifCond .eq 64, 3) := by decide +kernel
theorem d_Mo_at_74 : decode b_Mo_at 74 = .ok (.aload_n 0, 1) := by decide +kernel
theorem d_Mo_at_75 : decode b_Mo_at 75 = .ok (.getfield 16, 3) := by decide +kernel
theorem d_Mo_at_78 : decode b_Mo_at 78 = .ok (.iload_n 2, 1) := by decide +kernel
theorem d_Mo_at_79 : decode b_Mo_at 79 = .ok (.iaload, 1) := by decide +kernel
theorem d_Mo_at_80 : decode b_Mo_at 80 = .ok (.iconst 2, 1) := by decide +kernel
theorem d_Mo_at_81 : decode b_Mo_at 81 = .ok (.if_icmp .eq 54, 3) := by decide +kernel
theorem d_Mo_at_84 : decode b_Mo_at 84 = .ok (.iload_n 1, 1) := by decide +kernel
theorem d_Mo_at_85 : decode b_Mo_at 85 = .ok (.aload_n 0, 1) := by decide +kernel
theorem d_Mo_at_86 : decode b_Mo_at 86 = .ok (.getfield 100, 3) := by decide +kernel
theorem d_Mo_at_89 : decode b_Mo_at 89 = .ok (.iload_n 2, 1) := by decide +kernel
theorem d_Mo_at_90 : decode b_Mo_at 90 = .ok (.iaload, 1) := by decide +kernel
theorem d_Mo_at_91 : decode b_Mo_at 91 = .ok (.aload_n 0, 1) := by decide +kernel
theorem d_Mo_at_92 : decode b_Mo_at 92 = .ok (.getfield 100, 3) := by decide +kernel
theorem d_Mo_at_95 : decode b_Mo_at 95 = .ok (.iload_n 2, 1) := by decide +kernel
theorem d_Mo_at_96 : decode b_Mo_at 96 = .ok (.iaload, 1) := by decide +kernel
theorem d_Mo_at_97 : decode b_Mo_at 97 = .ok (.aload_n 0, 1) := by decide +kernel
theorem d_Mo_at_98 : decode b_Mo_at 98 = .ok (.getfield 19, 3) := by decide +kernel
theorem d_Mo_at_101 : decode b_Mo_at 101 = .ok (.iload_n 2, 1) := by decide +kernel
theorem d_Mo_at_102 : decode b_Mo_at 102 = .ok (.iaload, 1) := by decide +kernel
theorem d_Mo_at_103 : decode b_Mo_at 103 = .ok (.iadd, 1) := by decide +kernel
theorem d_Mo_at_104 : decode b_Mo_at 104 = .ok (.iconst 1, 1) := by decide +kernel
theorem d_Mo_at_105 : decode b_Mo_at 105 = .ok (.isub, 1) := by decide +kernel
theorem d_Mo_at_106 : decode b_Mo_at 106 = .ok (.invokestatic 125, 3) := by decide +kernel
theorem d_Mo_at_109 : decode b_Mo_at 109 = .ok (.ifCond .eq 26, 3) := by decide +kernel
theorem d_Mo_at_112 : decode b_Mo_at 112 = .ok (.aload_n 0, 1) := by decide +kernel
theorem d_Mo_at_113 : decode b_Mo_at 113 = .ok (.getfield 106, 3) := by decide +kernel
theorem d_Mo_at_116 : decode b_Mo_at 116 = .ok (.aload_n 0, 1) := by decide +kernel
theorem d_Mo_at_117 : decode b_Mo_at 117 = .ok (.getfield 25, 3) := by decide +kernel
theorem d_Mo_at_120 : decode b_Mo_at 120 = .ok (.iload_n 2, 1) := by decide +kernel
theorem d_Mo_at_121 : decode b_Mo_at 121 = .ok (.iaload, 1) := by decide +kernel
theorem d_Mo_at_122 : decode b_Mo_at 122 = .ok (.iload_n 1, 1) := by decide +kernel
theorem d_Mo_at_123 : decode b_Mo_at 123 = .ok (.aload_n 0, 1) := by decide +kernel
theorem d_Mo_at_124 : decode b_Mo_at 124 = .ok (.getfield 100, 3) := by decide +kernel
theorem d_Mo_at_127 : decode b_Mo_at 127 = .ok (.iload_n 2, 1) := by decide +kernel
theorem d_Mo_at_128 : decode b_Mo_at 128 = .ok (.iaload, 1) := by decide +kernel
theorem d_Mo_at_129 : decode b_Mo_at 129 = .ok (.isub, 1) := by decide +kernel
theorem d_Mo_at_130 : decode b_Mo_at 130 = .ok (.iconst 4, 1) := by decide +kernel
theorem d_Mo_at_131 : decode b_Mo_at 131 = .ok (.idiv, 1) := by decide +kernel
theorem d_Mo_at_132 : decode b_Mo_at 132 = .ok (.iadd, 1) := by decide +kernel
theorem d_Mo_at_133 : decode b_Mo_at 133 = .ok (.iaload, 1) := by decide +kernel
theorem d_Mo_at_134 : decode b_Mo_at 134 = .ok (.ireturn, 1) := by decide +kernel
theorem d_Mo_at_135 : decode b_Mo_at 135 = .ok (.iinc 2 1, 3) := by decide +kernel
theorem d_Mo_at_138 : decode b_Mo_at 138 = .ok (.goto (-80), 3) := by decide +kernel
theorem d_Mo_at_141 : decode b_Mo_at 141 = .ok (.aload_n 0, 1) := by decide +kernel
theorem d_Mo_at_142 : decode b_Mo_at 142 = .ok (.getfield 241, 3) := by decide +kernel
theorem d_Mo_at_145 : decode b_Mo_at 145 = .ok (.ifCond .le 79, 3) := by decide +kernel
theorem d_Mo_at_148 : decode b_Mo_at 148 = .ok (.iload_n 1, 1) := by decide +kernel
theorem d_Mo_at_149 : decode b_Mo_at 149 = .ok (.aload_n 0, 1) := by decide +kernel
theorem d_Mo_at_150 : decode b_Mo_at 150 = .ok (.getfield 244, 3) := by decide +kernel
theorem d_Mo_at_153 : decode b_Mo_at 153 = .ok (.aload_n 0, 1) := by decide +kernel
theorem d_Mo_at_154 : decode b_Mo_at 154 = .ok (.getfield 244, 3) := by decide +kernel
theorem d_Mo_at_157 : decode b_Mo_at 157 = .ok (.bipush 8, 2) := by decide +kernel
theorem d_Mo_at_159 : decode b_Mo_at 159 = .ok (.aload_n 0, 1) := by decide +kernel
theorem d_Mo_at_160 : decode b_Mo_at 160 = .ok (.getfield 241, 3) := by decide +kernel
theorem d_Mo_at_163 : decode b_Mo_at 163 = .ok (.imul, 1) := by decide +kernel
theorem d_Mo_at_164 : decode b_Mo_at 164 = .ok (.iadd, 1) := by decide +kernel
theorem d_Mo_at_165 : decode b_Mo_at 165 = .ok (.iconst 1, 1) := by decide +kernel
theorem d_Mo_at_166 : decode b_Mo_at 166 = .ok (.isub, 1) := by decide +kernel
theorem d_Mo_at_167 : decode b_Mo_at 167 = .ok (.invokestatic 125, 3) := by decide +kernel
theorem d_Mo_at_170 : decode b_Mo_at 170 = .ok (.ifCond .eq 54, 3) := by decide +kernel
theorem d_Mo_at_173 : decode b_Mo_at 173 = .ok (.iload_n 1, 1) := by decide +kernel
theorem d_Mo_at_174 : decode b_Mo_at 174 = .ok (.aload_n 0, 1) := by decide +kernel
theorem d_Mo_at_175 : decode b_Mo_at 175 = .ok (.getfield 244, 3) := by decide +kernel
theorem d_Mo_at_178 : decode b_Mo_at 178 = .ok (.isub, 1) := by decide +kernel
theorem d_Mo_at_179 : decode b_Mo_at 179 = .ok (.bipush 8, 2) := by decide +kernel
theorem d_Mo_at_181 : decode b_Mo_at 181 = .ok (.idiv, 1) := by decide +kernel
theorem d_Mo_at_182 : decode b_Mo_at 182 = .ok (.istore_n 2, 1) := by decide +kernel
theorem d_Mo_at_183 : decode b_Mo_at 183 = .ok (.iload_n 1, 1) := by decide +kernel
theorem d_Mo_at_184 : decode b_Mo_at 184 = .ok (.aload_n 0, 1) := by decide +kernel
theorem d_Mo_at_185 : decode b_Mo_at 185 = .ok (.iload_n 2, 1) := by decide +kernel
theorem d_Mo_at_186 : decode b_Mo_at 186 = .ok (.invokevirtual 279, 3) := by decide +kernel
theorem d_Mo_at_189 : decode b_Mo_at 189 = .ok (.if_icmp .ne 33, 3) := by decide +kernel
theorem d_Mo_at_192 : decode b_Mo_at 192 = .ok (.aload_n 0, 1) := by decide +kernel
theorem d_Mo_at_193 : decode b_Mo_at 193 = .ok (.aload_n 0, 1) := by decide +kernel
theorem d_Mo_at_194 : decode b_Mo_at 194 = .ok (.getfield 63, 3) := by decide +kernel
theorem d_Mo_at_197 : decode b_Mo_at 197 = .ok (.aload_n 0, 1) := by decide +kernel
theorem d_Mo_at_198 : decode b_Mo_at 198 = .ok (.getfield 112, 3) := by decide +kernel
theorem d_Mo_at_201 : decode b_Mo_at 201 = .ok (.iload_n 2, 1) := by decide +kernel
theorem d_Mo_at_202 : decode b_Mo_at 202 = .ok (.iaload, 1) := by decide +kernel
theorem d_Mo_at_203 : decode b_Mo_at 203 = .ok (.iaload, 1) := by decide +kernel
theorem d_Mo_at_204 : decode b_Mo_at 204 = .ok (.invokevirtual 256, 3) := by decide +kernel
theorem d_Mo_at_207 : decode b_Mo_at 207 = .ok (.aload_n 0, 1) := by decide +kernel
theorem d_Mo_at_208 : decode b_Mo_at 208 = .ok (.getfield 66, 3) := by decide +kernel
theorem d_Mo_at_211 : decode b_Mo_at 211 = .ok (.aload_n 0, 1) := by decide +kernel
theorem d_Mo_at_212 : decode b_Mo_at 212 = .ok (.getfield 112, 3) := by decide +kernel
theorem d_Mo_at_215 : decode b_Mo_at 215 = .ok (.iload_n 2, 1) := by decide +kernel
theorem d_Mo_at_216 : decode b_Mo_at 216 = .ok (.iaload, 1) := by decide +kernel
theorem d_Mo_at_217 : decode b_Mo_at 217 = .ok (.iaload, 1) := by decide +kernel
theorem d_Mo_at_218 : decode b_Mo_at 218 = .ok (.iadd, 1) := by decide +kernel
theorem d_Mo_at_219 : decode b_Mo_at 219 = .ok (.goto 4, 3) := by decide +kernel
theorem d_Mo_at_222 : decode b_Mo_at 222 = .ok (.iconst 0, 1) := by decide +kernel
theorem d_Mo_at_223 : decode b_Mo_at 223 = .ok (.ireturn, 1) := by decide +kernel
theorem d_Mo_at_224 : decode b_Mo_at 224 = .ok (.iconst 0, 1) := by decide +kernel
theorem d_Mo_at_225 : decode b_Mo_at 225 = .ok (.ireturn, 1) := by decide +kernel
theorem d_Mo_about_0 : decode b_Mo_about 0 = .ok (.aload_n 0, 1) := by decide +kernel
theorem d_Mo_about_1 : decode b_Mo_about 1 = .ok (.aload_n 0, 1) := by decide +kernel
theorem d_Mo_about_2 : decode b_Mo_about 2 = .ok (.getfield 118, 3) := by decide +kernel
theorem d_Mo_about_5 : decode b_Mo_about 5 = .ok (.ifCond .ne 7, 3) := by decide +kernel
theorem d_Mo_about_8 : decode b_Mo_about 8 = .ok (.iconst 1, 1) := by decide +kernel
theorem d_Mo_about_9 : decode b_Mo_about 9 = .ok (.goto 4, 3) := by decide +kernel
theorem d_Mo_about_12 : decode b_Mo_about 12 = .ok (.iconst 0, 1) := by decide +kernel
theorem d_Mo_about_13 : decode b_Mo_about 13 = .ok (.aload_n 0, 1) := by decide +kernel
theorem d_Mo_about_14 : decode b_Mo_about 14 = .ok (.getfield 118, 3) := by decide +kernel
theorem d_Mo_about_17 : decode b_Mo_about 17 = .ok (.ifCond .eq 17, 3) := by decide +kernel
theorem d_Mo_about_20 : decode b_Mo_about 20 = .ok (.iload_n 1, 1) := by decide +kernel
theorem d_Mo_about_21 : decode b_Mo_about 21 = .ok (.iconst 0, 1) := by decide +kernel
theorem d_Mo_about_22 : decode b_Mo_about 22 = .ok (.bipush 7, 2) := by decide +kernel
theorem d_Mo_about_24 : decode b_Mo_about 24 = .ok (.invokestatic 125, 3) := by decide +kernel
theorem d_Mo_about_27 : decode b_Mo_about 27 = .ok (.ifCond .ne 7, 3) := by decide +kernel
theorem d_Mo_about_30 : decode b_Mo_about 30 = .ok (.iconst 1, 1) := by decide +kernel
theorem d_Mo_about_31 : decode b_Mo_about 31 = .ok (.goto 4, 3) := by decide +kernel
theorem d_Mo_about_34 : decode b_Mo_about 34 = .ok (.iconst 0, 1) := by decide +kernel
theorem d_Mo_about_35 : decode b_Mo_about 35 = .ok (.invokevirtual 132, 3) := by decide +kernel
theorem d_Mo_about_38 : decode b_Mo_about 38 = .ok (.ifCond .eq 5, 3) := by decide +kernel
theorem d_Mo_about_41 : decode b_Mo_about 41 = .ok (.iconst 0, 1) := by decide +kernel
theorem d_Mo_about_42 : decode b_Mo_about 42 = .ok (.ireturn, 1) := by decide +kernel
theorem d_Mo_about_43 : decode b_Mo_about 43 = .ok (.iconst 0, 1) := by decide +kernel
theorem d_Mo_about_44 : decode b_Mo_about 44 = .ok (.istore_n 2, 1) := by decide +kernel
theorem d_Mo_about_45 : decode b_Mo_about 45 = .ok (.iload_n 1, 1) := by decide +kernel
theorem d_Mo_about_46 : decode b_Mo_about 46 = .ok (.tableswitch 219 0 6 #[42, 77, 112, 157, 162, 178, 214], 42) := by decide +kernel
theorem d_Mo_about_88 : decode b_Mo_about 88 = .ok (.iconst 0, 1) := by decide +kernel
theorem d_Mo_about_89 : decode b_Mo_about 89 = .ok (.istore_n 3, 1) := by decide +kernel
theorem d_Mo_about_90 : decode b_Mo_about 90 = .ok (.iload_n 3, 1) := by decide +kernel
theorem d_Mo_about_91 : decode b_Mo_about 91 = .ok (.aload_n 0, 1) := by decide +kernel
theorem d_Mo_about_92 : decode b_Mo_about 92 = .ok (.getfield 129, 3) := by decide +kernel
theorem d_Mo_about_95 : decode b_Mo_about 95 = .ok (.if_icmp .ge 26, 3) := by decide +kernel
theorem d_Mo_about_98 : decode b_Mo_about 98 = .ok (.aload_n 0, 1) := by decide +kernel
theorem d_Mo_about_99 : decode b_Mo_about 99 = .ok (.getfield 79, 3) := by decide +kernel
theorem d_Mo_about_102 : decode b_Mo_about 102 = .ok (.iload_n 3, 1) := by decide +kernel
theorem d_Mo_about_103 : decode b_Mo_about 103 = .ok (.baload, 1) := by decide +kernel
theorem d_Mo_about_104 : decode b_Mo_about 104 = .ok (.ifCond .eq 9, 3) := by decide +kernel
theorem d_Mo_about_107 : decode b_Mo_about 107 = .ok (.iload_n 2, 1) := by decide +kernel
theorem d_Mo_about_108 : decode b_Mo_about 108 = .ok (.iconst 1, 1) := by decide +kernel
theorem d_Mo_about_109 : decode b_Mo_about 109 = .ok (.iadd, 1) := by decide +kernel
theorem d_Mo_about_110 : decode b_Mo_about 110 = .ok (.goto 4, 3) := by decide +kernel
theorem d_Mo_about_113 : decode b_Mo_about 113 = .ok (.iload_n 2, 1) := by decide +kernel
theorem d_Mo_about_114 : decode b_Mo_about 114 = .ok (.istore_n 2, 1) := by decide +kernel
theorem d_Mo_about_115 : decode b_Mo_about 115 = .ok (.iinc 3 1, 3) := by decide +kernel
theorem d_Mo_about_118 : decode b_Mo_about 118 = .ok (.goto (-28), 3) := by decide +kernel
theorem d_Mo_about_121 : decode b_Mo_about 121 = .ok (.iload_n 2, 1) := by decide +kernel
theorem d_Mo_about_122 : decode b_Mo_about 122 = .ok (.ireturn, 1) := by decide +kernel
theorem d_Mo_about_123 : decode b_Mo_about 123 = .ok (.iconst 0, 1) := by decide +kernel
theorem d_Mo_about_124 : decode b_Mo_about 124 = .ok (.istore_n 3, 1) := by decide +kernel
theorem d_Mo_about_125 : decode b_Mo_about 125 = .ok (.iload_n 3, 1) := by decide +kernel
theorem d_Mo_about_126 : decode b_Mo_about 126 = .ok (.aload_n 0, 1) := by decide +kernel
theorem d_Mo_about_127 : decode b_Mo_about 127 = .ok (.getfield 143, 3) := by decide +kernel
theorem d_Mo_about_130 : decode b_Mo_about 130 = .ok (.if_icmp .ge 26, 3) := by decide +kernel
theorem d_Mo_about_133 : decode b_Mo_about 133 = .ok (.aload_n 0, 1) := by decide +kernel
theorem d_Mo_about_134 : decode b_Mo_about 134 = .ok (.getfield 94, 3) := by decide +kernel
theorem d_Mo_about_137 : decode b_Mo_about 137 = .ok (.iload_n 3, 1) := by decide +kernel
theorem d_Mo_about_138 : decode b_Mo_about 138 = .ok (.baload, 1) := by decide +kernel
theorem d_Mo_about_139 : decode b_Mo_about 139 = .ok (.ifCond .eq 9, 3) := by decide +kernel
theorem d_Mo_about_142 : decode b_Mo_about 142 = .ok (.iload_n 2, 1) := by decide +kernel
theorem d_Mo_about_143 : decode b_Mo_about 143 = .ok (.iconst 1, 1) := by decide +kernel
theorem d_Mo_about_144 : decode b_Mo_about 144 = .ok (.iadd, 1) := by decide +kernel
theorem d_Mo_about_145 : decode b_Mo_about 145 = .ok (.goto 4, 3) := by decide +kernel
theorem d_Mo_about_148 : decode b_Mo_about 148 = .ok (.iload_n 2, 1) := by decide +kernel
theorem d_Mo_about_149 : decode b_Mo_about 149 = .ok (.istore_n 2, 1) := by decide +kernel
theorem d_Mo_about_150 : decode b_Mo_about 150 = .ok (.iinc 3 1, 3) := by decide +kernel
theorem d_Mo_about_153 : decode b_Mo_about 153 = .ok (.goto (-28), 3) := by decide +kernel
theorem d_Mo_about_156 : decode b_Mo_about 156 = .ok (.iload_n 2, 1) := by decide +kernel
theorem d_Mo_about_157 : decode b_Mo_about 157 = .ok (.ireturn, 1) := by decide +kernel
theorem d_Mo_about_158 : decode b_Mo_about 158 = .ok (.iconst 0, 1) := by decide +kernel
theorem d_Mo_about_159 : decode b_Mo_about 159 = .ok (.istore_n 3, 1) := by decide +kernel
theorem d_Mo_about_160 : decode b_Mo_about 160 = .ok (.iload_n 3, 1) := by decide +kernel
theorem d_Mo_about_161 : decode b_Mo_about 161 = .ok (.aload_n 0, 1) := by decide +kernel
theorem d_Mo_about_162 : decode b_Mo_about 162 = .ok (.getfield 143, 3) := by decide +kernel
theorem d_Mo_about_165 : decode b_Mo_about 165 = .ok (.if_icmp .ge 36, 3) := by decide +kernel
theorem d_Mo_about_168 : decode b_Mo_about 168 = .ok (.aload_n 0, 1) := by decide +kernel
theorem d_Mo_about_169 : decode b_Mo_about 169 = .ok (.getfield 94, 3) := by decide +kernel
theorem d_Mo_about_172 : decode b_Mo_about 172 = .ok (.iload_n 3, 1) := by decide +kernel
theorem d_Mo_about_173 : decode b_Mo_about 173 = .ok (.baload, 1) := by decide +kernel
theorem d_Mo_about_174 : decode b_Mo_about 174 = .ok (.ifCond .eq 19, 3) := by decide +kernel
theorem d_Mo_about_177 : decode b_Mo_about 177 = .ok (.aload_n 0, 1) := by decide +kernel
theorem d_Mo_about_178 : decode b_Mo_about 178 = .ok (.getfield 97, 3) := by decide +kernel
theorem d_Mo_about_181 : decode b_Mo_about 181 = .ok (.iload_n 3, 1) := by decide +kernel
theorem d_Mo_about_182 : decode b_Mo_about 182 = .ok (.iaload, 1) := by decide +kernel
theorem d_Mo_about_183 : decode b_Mo_about 183 = .ok (.iload_n 3, 1) := by decide +kernel
theorem d_Mo_about_184 : decode b_Mo_about 184 = .ok (.if_icmp .eq 9, 3) := by decide +kernel
theorem d_Mo_about_187 : decode b_Mo_about 187 = .ok (.iload_n 2, 1) := by decide +kernel
theorem d_Mo_about_188 : decode b_Mo_about 188 = .ok (.iconst 1, 1) := by decide +kernel
theorem d_Mo_about_189 : decode b_Mo_about 189 = .ok (.iadd, 1) := by decide +kernel
theorem d_Mo_about_190 : decode b_Mo_about 190 = .ok (.goto 4, 3) := by decide +kernel
theorem d_Mo_about_193 : decode b_Mo_about 193 = .ok (.iload_n 2, 1) := by decide +kernel
theorem d_Mo_about_194 : decode b_Mo_about 194 = .ok (.istore_n 2, 1) := by decide +kernel
theorem d_Mo_about_195 : decode b_Mo_about 195 = .ok (.iinc 3 1, 3) := by decide +kernel
theorem d_Mo_about_198 : decode b_Mo_about 198 = .ok (.goto (-38), 3) := by decide +kernel
theorem d_Mo_about_201 : decode b_Mo_about 201 = .ok (.iload_n 2, 1) := by decide +kernel
theorem d_Mo_about_202 : decode b_Mo_about 202 = .ok (.ireturn, 1) := by decide +kernel
theorem d_Mo_about_203 : decode b_Mo_about 203 = .ok (.aload_n 0, 1) := by decide +kernel
theorem d_Mo_about_204 : decode b_Mo_about 204 = .ok (.getfield 241, 3) := by decide +kernel
theorem d_Mo_about_207 : decode b_Mo_about 207 = .ok (.ireturn, 1) := by decide +kernel
theorem d_Mo_about_208 : decode b_Mo_about 208 = .ok (.aload_n 0, 1) := by decide +kernel
theorem d_Mo_about_209 : decode b_Mo_about 209 = .ok (.getfield 241, 3) := by decide +kernel
theorem d_Mo_about_212 : decode b_Mo_about 212 = .ok (.ifCond .le 10, 3) := by decide +kernel
theorem d_Mo_about_215 : decode b_Mo_about 215 = .ok (.aload_n 0, 1) := by decide +kernel
theorem d_Mo_about_216 : decode b_Mo_about 216 = .ok (.getfield 244, 3) := by decide +kernel
theorem d_Mo_about_219 : decode b_Mo_about 219 = .ok (.goto 4, 3) := by decide +kernel
theorem d_Mo_about_222 : decode b_Mo_about 222 = .ok (.iconst (-1), 1) := by decide +kernel
theorem d_Mo_about_223 : decode b_Mo_about 223 = .ok (.ireturn, 1) := by decide +kernel
theorem d_Mo_about_224 : decode b_Mo_about 224 = .ok (.iconst 0, 1) := by decide +kernel
theorem d_Mo_about_225 : decode b_Mo_about 225 = .ok (.istore_n 3, 1) := by decide +kernel
theorem d_Mo_about_226 : decode b_Mo_about 226 = .ok (.iload_n 3, 1) := by decide +kernel
theorem d_Mo_about_227 : decode b_Mo_about 227 = .ok (.aload_n 0, 1) := by decide +kernel
theorem d_Mo_about_228 : decode b_Mo_about 228 = .ok (.getfield 167, 3) := by decide +kernel
theorem d_Mo_about_231 : decode b_Mo_about 231 = .ok (.if_icmp .ge 27, 3) := by decide +kernel
theorem d_Mo_about_234 : decode b_Mo_about 234 = .ok (.aload_n 0, 1) := by decide +kernel
theorem d_Mo_about_235 : decode b_Mo_about 235 = .ok (.getfield 109, 3) := by decide +kernel
theorem d_Mo_about_238 : decode b_Mo_about 238 = .ok (.iload_n 3, 1) := by decide +kernel
theorem d_Mo_about_239 : decode b_Mo_about 239 = .ok (.iaload, 1) := by decide +kernel
theorem d_Mo_about_240 : decode b_Mo_about 240 = .ok (.iconst (-1), 1) := by decide +kernel
theorem d_Mo_about_241 : decode b_Mo_about 241 = .ok (.if_icmp .eq 9, 3) := by decide +kernel
theorem d_Mo_about_244 : decode b_Mo_about 244 = .ok (.iload_n 2, 1) := by decide +kernel
theorem d_Mo_about_245 : decode b_Mo_about 245 = .ok (.iconst 1, 1) := by decide +kernel
theorem d_Mo_about_246 : decode b_Mo_about 246 = .ok (.iadd, 1) := by decide +kernel
theorem d_Mo_about_247 : decode b_Mo_about 247 = .ok (.goto 4, 3) := by decide +kernel
theorem d_Mo_about_250 : decode b_Mo_about 250 = .ok (.iload_n 2, 1) := by decide +kernel
theorem d_Mo_about_251 : decode b_Mo_about 251 = .ok (.istore_n 2, 1) := by decide +kernel
theorem d_Mo_about_252 : decode b_Mo_about 252 = .ok (.iinc 3 1, 3) := by decide +kernel
theorem d_Mo_about_255 : decode b_Mo_about 255 = .ok (.goto (-29), 3) := by decide +kernel
theorem d_Mo_about_258 : decode b_Mo_about 258 = .ok (.iload_n 2, 1) := by decide +kernel
theorem d_Mo_about_259 : decode b_Mo_about 259 = .ok (.ireturn, 1) := by decide +kernel
theorem d_Mo_about_260 : decode b_Mo_about 260 = .ok (.aload_n 0, 1) := by decide +kernel
theorem d_Mo_about_261 : decode b_Mo_about 261 = .ok (.getfield 247, 3) := by decide +kernel
theorem d_Mo_about_264 : decode b_Mo_about 264 = .ok (.ireturn, 1) := by decide +kernel
theorem d_Mo_about_265 : decode b_Mo_about 265 = .ok (.aload_n 0, 1) := by decide +kernel
theorem d_Mo_about_266 : decode b_Mo_about 266 = .ok (.getfield 232, 3) := by decide +kernel
theorem d_Mo_about_269 : decode b_Mo_about 269 = .ok (.ireturn, 1) := by decide +kernel
