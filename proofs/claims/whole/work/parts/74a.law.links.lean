theorem in1 : (1 : Int32) ≤ 1 ∧ (1 : Int32) ≤ 5 := by decide
theorem in2 : (1 : Int32) ≤ 2 ∧ (2 : Int32) ≤ 5 := by decide
theorem in3 : (1 : Int32) ≤ 3 ∧ (3 : Int32) ≤ 5 := by decide
theorem in4 : (1 : Int32) ≤ 4 ∧ (4 : Int32) ≤ 5 := by decide
theorem in5 : (1 : Int32) ≤ 5 ∧ (5 : Int32) ≤ 5 := by decide
theorem mh_Lw_80 : MLh "LinkYardLaw" 80 y_Lw_unit b_Lw_unit 4 hs_Lw_unit 3 := ⟨(mw 612 (by decide +kernel)), (mw 610 (by decide +kernel)), (mw 82 (by decide +kernel)), (mw 611 (by decide +kernel)), by decide +kernel⟩
theorem ml_LinkYardLaw_85 : MLb "LinkYardLaw" 85 y_Mo_unit b_Mo_unit 3 (some .int) 1 := ⟨(mw 1724 (by decide +kernel)), (mw 1721 (by decide +kernel)), (mw 95 (by decide +kernel)), by decide +kernel⟩
theorem mv_Mo_unit : MLv y_Mo_unit := ⟨(mw 1722 (by decide +kernel)), (mw 1723 (by decide +kernel))⟩
theorem ml_LinkYardLaw_86 : MLb "LinkYardLaw" 86 y_Mo_thrown b_Mo_thrown 1 (some .int) 0 := ⟨(mw 1720 (by decide +kernel)), (mw 1717 (by decide +kernel)), (mw 95 (by decide +kernel)), by decide +kernel⟩
theorem mv_Mo_thrown : MLv y_Mo_thrown := ⟨(mw 1718 (by decide +kernel)), (mw 1719 (by decide +kernel))⟩
theorem mh_Lw_90 : MLh "LinkYardLaw" 90 y_Lw_section b_Lw_section 7 hs_Lw_section 6 := ⟨(mw 711 (by decide +kernel)), (mw 709 (by decide +kernel)), (mw 82 (by decide +kernel)), (mw 710 (by decide +kernel)), by decide +kernel⟩
theorem ml_LinkYardLaw_93 : MLb "LinkYardLaw" 93 y_Mo_section b_Mo_section 7 (some .int) 4 := ⟨(mw 1739 (by decide +kernel)), (mw 1736 (by decide +kernel)), (mw 95 (by decide +kernel)), by decide +kernel⟩
theorem mv_Mo_section : MLv y_Mo_section := ⟨(mw 1737 (by decide +kernel)), (mw 1738 (by decide +kernel))⟩
theorem mh_Lw_94 : MLh "LinkYardLaw" 94 y_Lw_word b_Lw_word 5 hs_Lw_word 4 := ⟨(mw 1030 (by decide +kernel)), (mw 1028 (by decide +kernel)), (mw 82 (by decide +kernel)), (mw 1029 (by decide +kernel)), by decide +kernel⟩
theorem ml_LinkYardLaw_97 : MLb "LinkYardLaw" 97 y_Mo_word b_Mo_word 4 (none) 3 := ⟨(mw 1747 (by decide +kernel)), (mw 1744 (by decide +kernel)), (mw 95 (by decide +kernel)), by decide +kernel⟩
theorem mv_Mo_word : MLv y_Mo_word := ⟨(mw 1745 (by decide +kernel)), (mw 1746 (by decide +kernel))⟩
theorem mh_Lw_98 : MLh "LinkYardLaw" 98 y_Lw_symbol b_Lw_symbol 7 hs_Lw_symbol 6 := ⟨(mw 1050 (by decide +kernel)), (mw 1048 (by decide +kernel)), (mw 82 (by decide +kernel)), (mw 1049 (by decide +kernel)), by decide +kernel⟩
theorem ml_LinkYardLaw_100 : MLb "LinkYardLaw" 100 y_Mo_symbol b_Mo_symbol 6 (some .int) 4 := ⟨(mw 1755 (by decide +kernel)), (mw 1752 (by decide +kernel)), (mw 95 (by decide +kernel)), by decide +kernel⟩
theorem mv_Mo_symbol : MLv y_Mo_symbol := ⟨(mw 1753 (by decide +kernel)), (mw 1754 (by decide +kernel))⟩
theorem mh_Lw_101 : MLh "LinkYardLaw" 101 y_Lw_other b_Lw_other 8 hs_Lw_other 7 := ⟨(mw 1077 (by decide +kernel)), (mw 1075 (by decide +kernel)), (mw 82 (by decide +kernel)), (mw 1076 (by decide +kernel)), by decide +kernel⟩
theorem ml_LinkYardLaw_104 : MLb "LinkYardLaw" 104 y_Mo_other b_Mo_other 7 (some .int) 5 := ⟨(mw 1767 (by decide +kernel)), (mw 1764 (by decide +kernel)), (mw 95 (by decide +kernel)), by decide +kernel⟩
theorem mv_Mo_other : MLv y_Mo_other := ⟨(mw 1765 (by decide +kernel)), (mw 1766 (by decide +kernel))⟩
theorem mh_Lw_105 : MLh "LinkYardLaw" 105 y_Lw_relocation b_Lw_relocation 8 hs_Lw_relocation 7 := ⟨(mw 1091 (by decide +kernel)), (mw 1089 (by decide +kernel)), (mw 82 (by decide +kernel)), (mw 1090 (by decide +kernel)), by decide +kernel⟩
theorem ml_LinkYardLaw_107 : MLb "LinkYardLaw" 107 y_Mo_relocation b_Mo_relocation 7 (some .int) 5 := ⟨(mw 1771 (by decide +kernel)), (mw 1768 (by decide +kernel)), (mw 95 (by decide +kernel)), by decide +kernel⟩
theorem mv_Mo_relocation : MLv y_Mo_relocation := ⟨(mw 1769 (by decide +kernel)), (mw 1770 (by decide +kernel))⟩
theorem mh_Lw_108 : MLh "LinkYardLaw" 108 y_Lw_entry b_Lw_entry 3 hs_Lw_entry 2 := ⟨(mw 1109 (by decide +kernel)), (mw 1107 (by decide +kernel)), (mw 82 (by decide +kernel)), (mw 1108 (by decide +kernel)), by decide +kernel⟩
theorem ml_LinkYardLaw_111 : MLb "LinkYardLaw" 111 y_Mo_entry b_Mo_entry 2 (none) 1 := ⟨(mw 1775 (by decide +kernel)), (mw 1772 (by decide +kernel)), (mw 95 (by decide +kernel)), by decide +kernel⟩
theorem mv_Mo_entry : MLv y_Mo_entry := ⟨(mw 1773 (by decide +kernel)), (mw 1774 (by decide +kernel))⟩
theorem mh_Lw_112 : MLh "LinkYardLaw" 112 y_Lw_keep b_Lw_keep 4 hs_Lw_keep 3 := ⟨(mw 1117 (by decide +kernel)), (mw 1115 (by decide +kernel)), (mw 82 (by decide +kernel)), (mw 1116 (by decide +kernel)), by decide +kernel⟩
theorem ml_LinkYardLaw_115 : MLb "LinkYardLaw" 115 y_Mo_keep b_Mo_keep 3 (none) 2 := ⟨(mw 1779 (by decide +kernel)), (mw 1776 (by decide +kernel)), (mw 95 (by decide +kernel)), by decide +kernel⟩
theorem mv_Mo_keep : MLv y_Mo_keep := ⟨(mw 1777 (by decide +kernel)), (mw 1778 (by decide +kernel))⟩
theorem ml_LinkYardLaw_116 : MLb "LinkYardLaw" 116 y_Ly_fold b_Ly_fold 3 (none) 2 := ⟨(mw 597 (by decide +kernel)), (mw 594 (by decide +kernel)), (mw 83 (by decide +kernel)), by decide +kernel⟩
theorem mv_Ly_fold : MLv y_Ly_fold := ⟨(mw 595 (by decide +kernel)), (mw 596 (by decide +kernel))⟩
theorem ml_LinkYardLaw_120 : MLb "LinkYardLaw" 120 y_Mo_fold b_Mo_fold 3 (none) 2 := ⟨(mw 1783 (by decide +kernel)), (mw 1780 (by decide +kernel)), (mw 95 (by decide +kernel)), by decide +kernel⟩
theorem mv_Mo_fold : MLv y_Mo_fold := ⟨(mw 1781 (by decide +kernel)), (mw 1782 (by decide +kernel))⟩
theorem ml_LinkYardLaw_121 : MLb "LinkYardLaw" 121 y_Ly_clear b_Ly_clear 1 (none) 0 := ⟨(mw 605 (by decide +kernel)), (mw 602 (by decide +kernel)), (mw 83 (by decide +kernel)), by decide +kernel⟩
theorem mv_Ly_clear : MLv y_Ly_clear := ⟨(mw 603 (by decide +kernel)), (mw 604 (by decide +kernel))⟩
theorem ml_LinkYardLaw_124 : MLb "LinkYardLaw" 124 y_Mo_clear b_Mo_clear 1 (none) 0 := ⟨(mw 1787 (by decide +kernel)), (mw 1784 (by decide +kernel)), (mw 95 (by decide +kernel)), by decide +kernel⟩
theorem mv_Mo_clear : MLv y_Mo_clear := ⟨(mw 1785 (by decide +kernel)), (mw 1786 (by decide +kernel))⟩
theorem mh_Lw_125 : MLh "LinkYardLaw" 125 y_Lw_link b_Lw_link 4 hs_Lw_link 3 := ⟨(mw 1125 (by decide +kernel)), (mw 1123 (by decide +kernel)), (mw 82 (by decide +kernel)), (mw 1124 (by decide +kernel)), by decide +kernel⟩
theorem ml_LinkYardLaw_127 : MLb "LinkYardLaw" 127 y_Mo_link b_Mo_link 3 (some .int) 1 := ⟨(mw 1791 (by decide +kernel)), (mw 1788 (by decide +kernel)), (mw 95 (by decide +kernel)), by decide +kernel⟩
theorem mv_Mo_link : MLv y_Mo_link := ⟨(mw 1789 (by decide +kernel)), (mw 1790 (by decide +kernel))⟩
theorem mh_Lw_128 : MLh "LinkYardLaw" 128 y_Lw_fault b_Lw_fault 4 hs_Lw_fault 3 := ⟨(mw 1408 (by decide +kernel)), (mw 1406 (by decide +kernel)), (mw 82 (by decide +kernel)), (mw 1407 (by decide +kernel)), by decide +kernel⟩
theorem ml_LinkYardLaw_130 : MLb "LinkYardLaw" 130 y_Mo_fault b_Mo_fault 2 (some .int) 1 := ⟨(mw 1942 (by decide +kernel)), (mw 1939 (by decide +kernel)), (mw 95 (by decide +kernel)), by decide +kernel⟩
theorem mv_Mo_fault : MLv y_Mo_fault := ⟨(mw 1940 (by decide +kernel)), (mw 1941 (by decide +kernel))⟩
theorem mh_Lw_131 : MLh "LinkYardLaw" 131 y_Lw_isIn b_Lw_isIn 4 hs_Lw_isIn 3 := ⟨(mw 1416 (by decide +kernel)), (mw 1414 (by decide +kernel)), (mw 82 (by decide +kernel)), (mw 1415 (by decide +kernel)), by decide +kernel⟩
theorem ml_LinkYardLaw_133 : MLb "LinkYardLaw" 133 y_Mo_isIn b_Mo_isIn 2 (some .boolean) 1 := ⟨(mw 1946 (by decide +kernel)), (mw 1943 (by decide +kernel)), (mw 95 (by decide +kernel)), by decide +kernel⟩
theorem mv_Mo_isIn : MLv y_Mo_isIn := ⟨(mw 1944 (by decide +kernel)), (mw 1945 (by decide +kernel))⟩
theorem mh_Lw_134 : MLh "LinkYardLaw" 134 y_Lw_address b_Lw_address 4 hs_Lw_address 3 := ⟨(mw 1445 (by decide +kernel)), (mw 1443 (by decide +kernel)), (mw 82 (by decide +kernel)), (mw 1444 (by decide +kernel)), by decide +kernel⟩
theorem ml_LinkYardLaw_136 : MLb "LinkYardLaw" 136 y_Mo_address b_Mo_address 2 (some .int) 1 := ⟨(mw 1950 (by decide +kernel)), (mw 1947 (by decide +kernel)), (mw 95 (by decide +kernel)), by decide +kernel⟩
theorem mv_Mo_address : MLv y_Mo_address := ⟨(mw 1948 (by decide +kernel)), (mw 1949 (by decide +kernel))⟩
theorem mh_Lw_137 : MLh "LinkYardLaw" 137 y_Lw_like b_Lw_like 4 hs_Lw_like 3 := ⟨(mw 1456 (by decide +kernel)), (mw 1454 (by decide +kernel)), (mw 82 (by decide +kernel)), (mw 1455 (by decide +kernel)), by decide +kernel⟩
theorem ml_LinkYardLaw_139 : MLb "LinkYardLaw" 139 y_Mo_like b_Mo_like 2 (some .int) 1 := ⟨(mw 1954 (by decide +kernel)), (mw 1951 (by decide +kernel)), (mw 95 (by decide +kernel)), by decide +kernel⟩
theorem mv_Mo_like : MLv y_Mo_like := ⟨(mw 1952 (by decide +kernel)), (mw 1953 (by decide +kernel))⟩
theorem mh_Lw_140 : MLh "LinkYardLaw" 140 y_Lw_means b_Lw_means 5 hs_Lw_means 4 := ⟨(mw 1463 (by decide +kernel)), (mw 1461 (by decide +kernel)), (mw 82 (by decide +kernel)), (mw 1462 (by decide +kernel)), by decide +kernel⟩
theorem ml_LinkYardLaw_143 : MLb "LinkYardLaw" 143 y_Mo_means b_Mo_means 6 (some .int) 2 := ⟨(mw 1958 (by decide +kernel)), (mw 1955 (by decide +kernel)), (mw 95 (by decide +kernel)), by decide +kernel⟩
theorem mv_Mo_means : MLv y_Mo_means := ⟨(mw 1956 (by decide +kernel)), (mw 1957 (by decide +kernel))⟩
theorem mh_Lw_144 : MLh "LinkYardLaw" 144 y_Lw_common b_Lw_common 4 hs_Lw_common 3 := ⟨(mw 1476 (by decide +kernel)), (mw 1474 (by decide +kernel)), (mw 82 (by decide +kernel)), (mw 1475 (by decide +kernel)), by decide +kernel⟩
theorem ml_LinkYardLaw_146 : MLb "LinkYardLaw" 146 y_Mo_common b_Mo_common 2 (some .int) 1 := ⟨(mw 1962 (by decide +kernel)), (mw 1959 (by decide +kernel)), (mw 95 (by decide +kernel)), by decide +kernel⟩
theorem mv_Mo_common : MLv y_Mo_common := ⟨(mw 1960 (by decide +kernel)), (mw 1961 (by decide +kernel))⟩
theorem mh_Lw_147 : MLh "LinkYardLaw" 147 y_Lw_at b_Lw_at 4 hs_Lw_at 3 := ⟨(mw 1483 (by decide +kernel)), (mw 1481 (by decide +kernel)), (mw 82 (by decide +kernel)), (mw 1482 (by decide +kernel)), by decide +kernel⟩
theorem ml_LinkYardLaw_149 : MLb "LinkYardLaw" 149 y_Mo_at b_Mo_at 3 (some .int) 1 := ⟨(mw 1966 (by decide +kernel)), (mw 1963 (by decide +kernel)), (mw 95 (by decide +kernel)), by decide +kernel⟩
theorem mv_Mo_at : MLv y_Mo_at := ⟨(mw 1964 (by decide +kernel)), (mw 1965 (by decide +kernel))⟩
theorem mh_Lw_150 : MLh "LinkYardLaw" 150 y_Lw_about b_Lw_about 4 hs_Lw_about 3 := ⟨(mw 1545 (by decide +kernel)), (mw 1543 (by decide +kernel)), (mw 82 (by decide +kernel)), (mw 1544 (by decide +kernel)), by decide +kernel⟩
theorem ml_LinkYardLaw_152 : MLb "LinkYardLaw" 152 y_Mo_about b_Mo_about 4 (some .int) 1 := ⟨(mw 1970 (by decide +kernel)), (mw 1967 (by decide +kernel)), (mw 95 (by decide +kernel)), by decide +kernel⟩
theorem mv_Mo_about : MLv y_Mo_about := ⟨(mw 1968 (by decide +kernel)), (mw 1969 (by decide +kernel))⟩
theorem d_law_0 : decode code 0 = .ok (.new 8, 3) := by decide +kernel
theorem d_law_3 : decode code 3 = .ok (.dup, 1) := by decide +kernel
theorem d_law_4 : decode code 4 = .ok (.invokespecial 76, 3) := by decide +kernel
theorem d_law_7 : decode code 7 = .ok (.astore_n 1, 1) := by decide +kernel
theorem d_law_8 : decode code 8 = .ok (.new 77, 3) := by decide +kernel
theorem d_law_11 : decode code 11 = .ok (.dup, 1) := by decide +kernel
theorem d_law_12 : decode code 12 = .ok (.invokespecial 79, 3) := by decide +kernel
theorem d_law_15 : decode code 15 = .ok (.astore_n 2, 1) := by decide +kernel
theorem d_law_16 : decode code 16 = .ok (.iconst 1, 1) := by decide +kernel
theorem d_law_17 : decode code 17 = .ok (.newarray .long, 2) := by decide +kernel
theorem d_law_19 : decode code 19 = .ok (.astore_n 3, 1) := by decide +kernel
theorem d_law_20 : decode code 20 = .ok (.iconst 0, 1) := by decide +kernel
theorem d_law_21 : decode code 21 = .ok (.istore 4, 2) := by decide +kernel
theorem d_law_23 : decode code 23 = .ok (.iload 4, 2) := by decide +kernel
theorem d_law_25 : decode code 25 = .ok (.aload_n 0, 1) := by decide +kernel
theorem d_law_26 : decode code 26 = .ok (.arraylength, 1) := by decide +kernel
theorem d_law_27 : decode code 27 = .ok (.bipush 6, 2) := by decide +kernel
theorem d_law_29 : decode code 29 = .ok (.isub, 1) := by decide +kernel
theorem d_law_30 : decode code 30 = .ok (.if_icmp .gt 1317, 3) := by decide +kernel
theorem d_law_33 : decode code 33 = .ok (.aload_n 0, 1) := by decide +kernel
theorem d_law_34 : decode code 34 = .ok (.iload 4, 2) := by decide +kernel
theorem d_law_36 : decode code 36 = .ok (.iaload, 1) := by decide +kernel
theorem d_law_37 : decode code 37 = .ok (.bipush 31, 2) := by decide +kernel
theorem d_law_39 : decode code 39 = .ok (.iand, 1) := by decide +kernel
theorem d_law_40 : decode code 40 = .ok (.tableswitch 1301 0 18 #[92, 148, 240, 300, 392, 496, 600, 636, 700, 767, 778, 834, 890, 953, 1009, 1065, 1133, 1189, 1245], 92) := by decide +kernel
theorem d_law_132 : decode code 132 = .ok (.aload_n 1, 1) := by decide +kernel
theorem d_law_133 : decode code 133 = .ok (.aload_n 0, 1) := by decide +kernel
theorem d_law_134 : decode code 134 = .ok (.iload 4, 2) := by decide +kernel
theorem d_law_136 : decode code 136 = .ok (.iconst 1, 1) := by decide +kernel
theorem d_law_137 : decode code 137 = .ok (.iadd, 1) := by decide +kernel
theorem d_law_138 : decode code 138 = .ok (.iaload, 1) := by decide +kernel
theorem d_law_139 : decode code 139 = .ok (.aload_n 3, 1) := by decide +kernel
theorem d_law_140 : decode code 140 = .ok (.invokestatic 80, 3) := by decide +kernel
theorem d_law_143 : decode code 143 = .ok (.istore 5, 2) := by decide +kernel
theorem d_law_145 : decode code 145 = .ok (.aload_n 2, 1) := by decide +kernel
theorem d_law_146 : decode code 146 = .ok (.aload_n 0, 1) := by decide +kernel
theorem d_law_147 : decode code 147 = .ok (.iload 4, 2) := by decide +kernel
theorem d_law_149 : decode code 149 = .ok (.iconst 1, 1) := by decide +kernel
theorem d_law_150 : decode code 150 = .ok (.iadd, 1) := by decide +kernel
theorem d_law_151 : decode code 151 = .ok (.iaload, 1) := by decide +kernel
theorem d_law_152 : decode code 152 = .ok (.invokevirtual 85, 3) := by decide +kernel
theorem d_law_155 : decode code 155 = .ok (.istore 6, 2) := by decide +kernel
theorem d_law_157 : decode code 157 = .ok (.aload_n 2, 1) := by decide +kernel
theorem d_law_158 : decode code 158 = .ok (.invokevirtual 86, 3) := by decide +kernel
theorem d_law_161 : decode code 161 = .ok (.iload 5, 2) := by decide +kernel
theorem d_law_163 : decode code 163 = .ok (.if_icmp .eq 5, 3) := by decide +kernel
theorem d_law_166 : decode code 166 = .ok (.iconst 0, 1) := by decide +kernel
theorem d_law_167 : decode code 167 = .ok (.ireturn, 1) := by decide +kernel
theorem d_law_168 : decode code 168 = .ok (.iload 5, 2) := by decide +kernel
theorem d_law_170 : decode code 170 = .ok (.ifCond .ne 15, 3) := by decide +kernel
theorem d_law_173 : decode code 173 = .ok (.aload_n 3, 1) := by decide +kernel
theorem d_law_174 : decode code 174 = .ok (.iconst 0, 1) := by decide +kernel
theorem d_law_175 : decode code 175 = .ok (.laload, 1) := by decide +kernel
theorem d_law_176 : decode code 176 = .ok (.iload 6, 2) := by decide +kernel
theorem d_law_178 : decode code 178 = .ok (.i2l, 1) := by decide +kernel
theorem d_law_179 : decode code 179 = .ok (.lcmp, 1) := by decide +kernel
theorem d_law_180 : decode code 180 = .ok (.ifCond .eq 5, 3) := by decide +kernel
theorem d_law_183 : decode code 183 = .ok (.iconst 0, 1) := by decide +kernel
theorem d_law_184 : decode code 184 = .ok (.ireturn, 1) := by decide +kernel
theorem d_law_185 : decode code 185 = .ok (.goto 1156, 3) := by decide +kernel
theorem d_law_188 : decode code 188 = .ok (.aload_n 1, 1) := by decide +kernel
theorem d_law_189 : decode code 189 = .ok (.aload_n 0, 1) := by decide +kernel
theorem d_law_190 : decode code 190 = .ok (.iload 4, 2) := by decide +kernel
theorem d_law_192 : decode code 192 = .ok (.iconst 1, 1) := by decide +kernel
theorem d_law_193 : decode code 193 = .ok (.iadd, 1) := by decide +kernel
theorem d_law_194 : decode code 194 = .ok (.iaload, 1) := by decide +kernel
theorem d_law_195 : decode code 195 = .ok (.aload_n 0, 1) := by decide +kernel
theorem d_law_196 : decode code 196 = .ok (.iload 4, 2) := by decide +kernel
theorem d_law_198 : decode code 198 = .ok (.iconst 2, 1) := by decide +kernel
theorem d_law_199 : decode code 199 = .ok (.iadd, 1) := by decide +kernel
theorem d_law_200 : decode code 200 = .ok (.iaload, 1) := by decide +kernel
theorem d_law_201 : decode code 201 = .ok (.aload_n 0, 1) := by decide +kernel
theorem d_law_202 : decode code 202 = .ok (.iload 4, 2) := by decide +kernel
theorem d_law_204 : decode code 204 = .ok (.iconst 3, 1) := by decide +kernel
theorem d_law_205 : decode code 205 = .ok (.iadd, 1) := by decide +kernel
theorem d_law_206 : decode code 206 = .ok (.iaload, 1) := by decide +kernel
theorem d_law_207 : decode code 207 = .ok (.aload_n 0, 1) := by decide +kernel
theorem d_law_208 : decode code 208 = .ok (.iload 4, 2) := by decide +kernel
theorem d_law_210 : decode code 210 = .ok (.iconst 4, 1) := by decide +kernel
theorem d_law_211 : decode code 211 = .ok (.iadd, 1) := by decide +kernel
theorem d_law_212 : decode code 212 = .ok (.iaload, 1) := by decide +kernel
theorem d_law_213 : decode code 213 = .ok (.aload_n 3, 1) := by decide +kernel
theorem d_law_214 : decode code 214 = .ok (.invokestatic 90, 3) := by decide +kernel
theorem d_law_217 : decode code 217 = .ok (.istore 5, 2) := by decide +kernel
theorem d_law_219 : decode code 219 = .ok (.aload_n 2, 1) := by decide +kernel
theorem d_law_220 : decode code 220 = .ok (.aload_n 0, 1) := by decide +kernel
theorem d_law_221 : decode code 221 = .ok (.iload 4, 2) := by decide +kernel
theorem d_law_223 : decode code 223 = .ok (.iconst 1, 1) := by decide +kernel
theorem d_law_224 : decode code 224 = .ok (.iadd, 1) := by decide +kernel
theorem d_law_225 : decode code 225 = .ok (.iaload, 1) := by decide +kernel
theorem d_law_226 : decode code 226 = .ok (.aload_n 0, 1) := by decide +kernel
theorem d_law_227 : decode code 227 = .ok (.iload 4, 2) := by decide +kernel
theorem d_law_229 : decode code 229 = .ok (.iconst 2, 1) := by decide +kernel
theorem d_law_230 : decode code 230 = .ok (.iadd, 1) := by decide +kernel
theorem d_law_231 : decode code 231 = .ok (.iaload, 1) := by decide +kernel
theorem d_law_232 : decode code 232 = .ok (.aload_n 0, 1) := by decide +kernel
theorem d_law_233 : decode code 233 = .ok (.iload 4, 2) := by decide +kernel
theorem d_law_235 : decode code 235 = .ok (.iconst 3, 1) := by decide +kernel
theorem d_law_236 : decode code 236 = .ok (.iadd, 1) := by decide +kernel
theorem d_law_237 : decode code 237 = .ok (.iaload, 1) := by decide +kernel
theorem d_law_238 : decode code 238 = .ok (.aload_n 0, 1) := by decide +kernel
theorem d_law_239 : decode code 239 = .ok (.iload 4, 2) := by decide +kernel
theorem d_law_241 : decode code 241 = .ok (.iconst 4, 1) := by decide +kernel
theorem d_law_242 : decode code 242 = .ok (.iadd, 1) := by decide +kernel
theorem d_law_243 : decode code 243 = .ok (.iaload, 1) := by decide +kernel
theorem d_law_244 : decode code 244 = .ok (.invokevirtual 93, 3) := by decide +kernel
theorem d_law_247 : decode code 247 = .ok (.istore 6, 2) := by decide +kernel
theorem d_law_249 : decode code 249 = .ok (.aload_n 2, 1) := by decide +kernel
theorem d_law_250 : decode code 250 = .ok (.invokevirtual 86, 3) := by decide +kernel
theorem d_law_253 : decode code 253 = .ok (.iload 5, 2) := by decide +kernel
theorem d_law_255 : decode code 255 = .ok (.if_icmp .eq 5, 3) := by decide +kernel
theorem d_law_258 : decode code 258 = .ok (.iconst 0, 1) := by decide +kernel
theorem d_law_259 : decode code 259 = .ok (.ireturn, 1) := by decide +kernel
theorem d_law_260 : decode code 260 = .ok (.iload 5, 2) := by decide +kernel
theorem d_law_262 : decode code 262 = .ok (.ifCond .ne 15, 3) := by decide +kernel
theorem d_law_265 : decode code 265 = .ok (.aload_n 3, 1) := by decide +kernel
theorem d_law_266 : decode code 266 = .ok (.iconst 0, 1) := by decide +kernel
theorem d_law_267 : decode code 267 = .ok (.laload, 1) := by decide +kernel
theorem d_law_268 : decode code 268 = .ok (.iload 6, 2) := by decide +kernel
theorem d_law_270 : decode code 270 = .ok (.i2l, 1) := by decide +kernel
theorem d_law_271 : decode code 271 = .ok (.lcmp, 1) := by decide +kernel
theorem d_law_272 : decode code 272 = .ok (.ifCond .eq 5, 3) := by decide +kernel
theorem d_law_275 : decode code 275 = .ok (.iconst 0, 1) := by decide +kernel
theorem d_law_276 : decode code 276 = .ok (.ireturn, 1) := by decide +kernel
theorem d_law_277 : decode code 277 = .ok (.goto 1064, 3) := by decide +kernel
theorem d_law_280 : decode code 280 = .ok (.aload_n 1, 1) := by decide +kernel
theorem d_law_281 : decode code 281 = .ok (.aload_n 0, 1) := by decide +kernel
theorem d_law_282 : decode code 282 = .ok (.iload 4, 2) := by decide +kernel
theorem d_law_284 : decode code 284 = .ok (.iconst 1, 1) := by decide +kernel
theorem d_law_285 : decode code 285 = .ok (.iadd, 1) := by decide +kernel
theorem d_law_286 : decode code 286 = .ok (.iaload, 1) := by decide +kernel
theorem d_law_287 : decode code 287 = .ok (.aload_n 0, 1) := by decide +kernel
theorem d_law_288 : decode code 288 = .ok (.iload 4, 2) := by decide +kernel
theorem d_law_290 : decode code 290 = .ok (.iconst 2, 1) := by decide +kernel
theorem d_law_291 : decode code 291 = .ok (.iadd, 1) := by decide +kernel
theorem d_law_292 : decode code 292 = .ok (.iaload, 1) := by decide +kernel
theorem d_law_293 : decode code 293 = .ok (.aload_n 0, 1) := by decide +kernel
theorem d_law_294 : decode code 294 = .ok (.iload 4, 2) := by decide +kernel
theorem d_law_296 : decode code 296 = .ok (.iconst 3, 1) := by decide +kernel
theorem d_law_297 : decode code 297 = .ok (.iadd, 1) := by decide +kernel
theorem d_law_298 : decode code 298 = .ok (.iaload, 1) := by decide +kernel
theorem d_law_299 : decode code 299 = .ok (.invokestatic 94, 3) := by decide +kernel
theorem d_law_302 : decode code 302 = .ok (.istore 5, 2) := by decide +kernel
theorem d_law_304 : decode code 304 = .ok (.aload_n 2, 1) := by decide +kernel
theorem d_law_305 : decode code 305 = .ok (.aload_n 0, 1) := by decide +kernel
theorem d_law_306 : decode code 306 = .ok (.iload 4, 2) := by decide +kernel
theorem d_law_308 : decode code 308 = .ok (.iconst 1, 1) := by decide +kernel
theorem d_law_309 : decode code 309 = .ok (.iadd, 1) := by decide +kernel
theorem d_law_310 : decode code 310 = .ok (.iaload, 1) := by decide +kernel
theorem d_law_311 : decode code 311 = .ok (.aload_n 0, 1) := by decide +kernel
theorem d_law_312 : decode code 312 = .ok (.iload 4, 2) := by decide +kernel
theorem d_law_314 : decode code 314 = .ok (.iconst 2, 1) := by decide +kernel
theorem d_law_315 : decode code 315 = .ok (.iadd, 1) := by decide +kernel
theorem d_law_316 : decode code 316 = .ok (.iaload, 1) := by decide +kernel
theorem d_law_317 : decode code 317 = .ok (.aload_n 0, 1) := by decide +kernel
theorem d_law_318 : decode code 318 = .ok (.iload 4, 2) := by decide +kernel
theorem d_law_320 : decode code 320 = .ok (.iconst 3, 1) := by decide +kernel
theorem d_law_321 : decode code 321 = .ok (.iadd, 1) := by decide +kernel
theorem d_law_322 : decode code 322 = .ok (.iaload, 1) := by decide +kernel
theorem d_law_323 : decode code 323 = .ok (.invokevirtual 97, 3) := by decide +kernel
theorem d_law_326 : decode code 326 = .ok (.aload_n 2, 1) := by decide +kernel
theorem d_law_327 : decode code 327 = .ok (.invokevirtual 86, 3) := by decide +kernel
theorem d_law_330 : decode code 330 = .ok (.iload 5, 2) := by decide +kernel
theorem d_law_332 : decode code 332 = .ok (.if_icmp .eq 5, 3) := by decide +kernel
theorem d_law_335 : decode code 335 = .ok (.iconst 0, 1) := by decide +kernel
theorem d_law_336 : decode code 336 = .ok (.ireturn, 1) := by decide +kernel
theorem d_law_337 : decode code 337 = .ok (.goto 1004, 3) := by decide +kernel
theorem d_law_340 : decode code 340 = .ok (.aload_n 1, 1) := by decide +kernel
theorem d_law_341 : decode code 341 = .ok (.aload_n 0, 1) := by decide +kernel
theorem d_law_342 : decode code 342 = .ok (.iload 4, 2) := by decide +kernel
theorem d_law_344 : decode code 344 = .ok (.iconst 1, 1) := by decide +kernel
theorem d_law_345 : decode code 345 = .ok (.iadd, 1) := by decide +kernel
theorem d_law_346 : decode code 346 = .ok (.iaload, 1) := by decide +kernel
theorem d_law_347 : decode code 347 = .ok (.aload_n 0, 1) := by decide +kernel
theorem d_law_348 : decode code 348 = .ok (.iload 4, 2) := by decide +kernel
theorem d_law_350 : decode code 350 = .ok (.iconst 2, 1) := by decide +kernel
theorem d_law_351 : decode code 351 = .ok (.iadd, 1) := by decide +kernel
theorem d_law_352 : decode code 352 = .ok (.iaload, 1) := by decide +kernel
theorem d_law_353 : decode code 353 = .ok (.aload_n 0, 1) := by decide +kernel
theorem d_law_354 : decode code 354 = .ok (.iload 4, 2) := by decide +kernel
theorem d_law_356 : decode code 356 = .ok (.iconst 3, 1) := by decide +kernel
theorem d_law_357 : decode code 357 = .ok (.iadd, 1) := by decide +kernel
theorem d_law_358 : decode code 358 = .ok (.iaload, 1) := by decide +kernel
theorem d_law_359 : decode code 359 = .ok (.aload_n 0, 1) := by decide +kernel
theorem d_law_360 : decode code 360 = .ok (.iload 4, 2) := by decide +kernel
theorem d_law_362 : decode code 362 = .ok (.iconst 4, 1) := by decide +kernel
theorem d_law_363 : decode code 363 = .ok (.iadd, 1) := by decide +kernel
theorem d_law_364 : decode code 364 = .ok (.iaload, 1) := by decide +kernel
theorem d_law_365 : decode code 365 = .ok (.aload_n 3, 1) := by decide +kernel
theorem d_law_366 : decode code 366 = .ok (.invokestatic 98, 3) := by decide +kernel
theorem d_law_369 : decode code 369 = .ok (.istore 5, 2) := by decide +kernel
theorem d_law_371 : decode code 371 = .ok (.aload_n 2, 1) := by decide +kernel
theorem d_law_372 : decode code 372 = .ok (.aload_n 0, 1) := by decide +kernel
theorem d_law_373 : decode code 373 = .ok (.iload 4, 2) := by decide +kernel
theorem d_law_375 : decode code 375 = .ok (.iconst 1, 1) := by decide +kernel
theorem d_law_376 : decode code 376 = .ok (.iadd, 1) := by decide +kernel
theorem d_law_377 : decode code 377 = .ok (.iaload, 1) := by decide +kernel
theorem d_law_378 : decode code 378 = .ok (.aload_n 0, 1) := by decide +kernel
theorem d_law_379 : decode code 379 = .ok (.iload 4, 2) := by decide +kernel
theorem d_law_381 : decode code 381 = .ok (.iconst 2, 1) := by decide +kernel
theorem d_law_382 : decode code 382 = .ok (.iadd, 1) := by decide +kernel
theorem d_law_383 : decode code 383 = .ok (.iaload, 1) := by decide +kernel
theorem d_law_384 : decode code 384 = .ok (.aload_n 0, 1) := by decide +kernel
theorem d_law_385 : decode code 385 = .ok (.iload 4, 2) := by decide +kernel
theorem d_law_387 : decode code 387 = .ok (.iconst 3, 1) := by decide +kernel
theorem d_law_388 : decode code 388 = .ok (.iadd, 1) := by decide +kernel
theorem d_law_389 : decode code 389 = .ok (.iaload, 1) := by decide +kernel
theorem d_law_390 : decode code 390 = .ok (.aload_n 0, 1) := by decide +kernel
theorem d_law_391 : decode code 391 = .ok (.iload 4, 2) := by decide +kernel
theorem d_law_393 : decode code 393 = .ok (.iconst 4, 1) := by decide +kernel
theorem d_law_394 : decode code 394 = .ok (.iadd, 1) := by decide +kernel
theorem d_law_395 : decode code 395 = .ok (.iaload, 1) := by decide +kernel
theorem d_law_396 : decode code 396 = .ok (.invokevirtual 100, 3) := by decide +kernel
theorem d_law_399 : decode code 399 = .ok (.istore 6, 2) := by decide +kernel
theorem d_law_401 : decode code 401 = .ok (.aload_n 2, 1) := by decide +kernel
theorem d_law_402 : decode code 402 = .ok (.invokevirtual 86, 3) := by decide +kernel
theorem d_law_405 : decode code 405 = .ok (.iload 5, 2) := by decide +kernel
theorem d_law_407 : decode code 407 = .ok (.if_icmp .eq 5, 3) := by decide +kernel
theorem d_law_410 : decode code 410 = .ok (.iconst 0, 1) := by decide +kernel
theorem d_law_411 : decode code 411 = .ok (.ireturn, 1) := by decide +kernel
theorem d_law_412 : decode code 412 = .ok (.iload 5, 2) := by decide +kernel
theorem d_law_414 : decode code 414 = .ok (.ifCond .ne 15, 3) := by decide +kernel
theorem d_law_417 : decode code 417 = .ok (.aload_n 3, 1) := by decide +kernel
theorem d_law_418 : decode code 418 = .ok (.iconst 0, 1) := by decide +kernel
theorem d_law_419 : decode code 419 = .ok (.laload, 1) := by decide +kernel
theorem d_law_420 : decode code 420 = .ok (.iload 6, 2) := by decide +kernel
theorem d_law_422 : decode code 422 = .ok (.i2l, 1) := by decide +kernel
theorem d_law_423 : decode code 423 = .ok (.lcmp, 1) := by decide +kernel
theorem d_law_424 : decode code 424 = .ok (.ifCond .eq 5, 3) := by decide +kernel
theorem d_law_427 : decode code 427 = .ok (.iconst 0, 1) := by decide +kernel
theorem d_law_428 : decode code 428 = .ok (.ireturn, 1) := by decide +kernel
theorem d_law_429 : decode code 429 = .ok (.goto 912, 3) := by decide +kernel
theorem d_law_432 : decode code 432 = .ok (.aload_n 1, 1) := by decide +kernel
theorem d_law_433 : decode code 433 = .ok (.aload_n 0, 1) := by decide +kernel
theorem d_law_434 : decode code 434 = .ok (.iload 4, 2) := by decide +kernel
theorem d_law_436 : decode code 436 = .ok (.iconst 1, 1) := by decide +kernel
theorem d_law_437 : decode code 437 = .ok (.iadd, 1) := by decide +kernel
theorem d_law_438 : decode code 438 = .ok (.iaload, 1) := by decide +kernel
theorem d_law_439 : decode code 439 = .ok (.aload_n 0, 1) := by decide +kernel
theorem d_law_440 : decode code 440 = .ok (.iload 4, 2) := by decide +kernel
theorem d_law_442 : decode code 442 = .ok (.iconst 2, 1) := by decide +kernel
theorem d_law_443 : decode code 443 = .ok (.iadd, 1) := by decide +kernel
theorem d_law_444 : decode code 444 = .ok (.iaload, 1) := by decide +kernel
theorem d_law_445 : decode code 445 = .ok (.aload_n 0, 1) := by decide +kernel
theorem d_law_446 : decode code 446 = .ok (.iload 4, 2) := by decide +kernel
theorem d_law_448 : decode code 448 = .ok (.iconst 3, 1) := by decide +kernel
theorem d_law_449 : decode code 449 = .ok (.iadd, 1) := by decide +kernel
theorem d_law_450 : decode code 450 = .ok (.iaload, 1) := by decide +kernel
theorem d_law_451 : decode code 451 = .ok (.aload_n 0, 1) := by decide +kernel
theorem d_law_452 : decode code 452 = .ok (.iload 4, 2) := by decide +kernel
theorem d_law_454 : decode code 454 = .ok (.iconst 4, 1) := by decide +kernel
theorem d_law_455 : decode code 455 = .ok (.iadd, 1) := by decide +kernel
theorem d_law_456 : decode code 456 = .ok (.iaload, 1) := by decide +kernel
theorem d_law_457 : decode code 457 = .ok (.aload_n 0, 1) := by decide +kernel
theorem d_law_458 : decode code 458 = .ok (.iload 4, 2) := by decide +kernel
theorem d_law_460 : decode code 460 = .ok (.iconst 5, 1) := by decide +kernel
theorem d_law_461 : decode code 461 = .ok (.iadd, 1) := by decide +kernel
theorem d_law_462 : decode code 462 = .ok (.iaload, 1) := by decide +kernel
theorem d_law_463 : decode code 463 = .ok (.aload_n 3, 1) := by decide +kernel
theorem d_law_464 : decode code 464 = .ok (.invokestatic 101, 3) := by decide +kernel
theorem d_law_467 : decode code 467 = .ok (.istore 5, 2) := by decide +kernel
theorem d_law_469 : decode code 469 = .ok (.aload_n 2, 1) := by decide +kernel
theorem d_law_470 : decode code 470 = .ok (.aload_n 0, 1) := by decide +kernel
theorem d_law_471 : decode code 471 = .ok (.iload 4, 2) := by decide +kernel
theorem d_law_473 : decode code 473 = .ok (.iconst 1, 1) := by decide +kernel
theorem d_law_474 : decode code 474 = .ok (.iadd, 1) := by decide +kernel
theorem d_law_475 : decode code 475 = .ok (.iaload, 1) := by decide +kernel
theorem d_law_476 : decode code 476 = .ok (.aload_n 0, 1) := by decide +kernel
theorem d_law_477 : decode code 477 = .ok (.iload 4, 2) := by decide +kernel
theorem d_law_479 : decode code 479 = .ok (.iconst 2, 1) := by decide +kernel
theorem d_law_480 : decode code 480 = .ok (.iadd, 1) := by decide +kernel
theorem d_law_481 : decode code 481 = .ok (.iaload, 1) := by decide +kernel
theorem d_law_482 : decode code 482 = .ok (.aload_n 0, 1) := by decide +kernel
theorem d_law_483 : decode code 483 = .ok (.iload 4, 2) := by decide +kernel
theorem d_law_485 : decode code 485 = .ok (.iconst 3, 1) := by decide +kernel
theorem d_law_486 : decode code 486 = .ok (.iadd, 1) := by decide +kernel
theorem d_law_487 : decode code 487 = .ok (.iaload, 1) := by decide +kernel
theorem d_law_488 : decode code 488 = .ok (.aload_n 0, 1) := by decide +kernel
theorem d_law_489 : decode code 489 = .ok (.iload 4, 2) := by decide +kernel
theorem d_law_491 : decode code 491 = .ok (.iconst 4, 1) := by decide +kernel
theorem d_law_492 : decode code 492 = .ok (.iadd, 1) := by decide +kernel
theorem d_law_493 : decode code 493 = .ok (.iaload, 1) := by decide +kernel
theorem d_law_494 : decode code 494 = .ok (.aload_n 0, 1) := by decide +kernel
theorem d_law_495 : decode code 495 = .ok (.iload 4, 2) := by decide +kernel
theorem d_law_497 : decode code 497 = .ok (.iconst 5, 1) := by decide +kernel
theorem d_law_498 : decode code 498 = .ok (.iadd, 1) := by decide +kernel
theorem d_law_499 : decode code 499 = .ok (.iaload, 1) := by decide +kernel
theorem d_law_500 : decode code 500 = .ok (.invokevirtual 104, 3) := by decide +kernel
theorem d_law_503 : decode code 503 = .ok (.istore 6, 2) := by decide +kernel
theorem d_law_505 : decode code 505 = .ok (.aload_n 2, 1) := by decide +kernel
theorem d_law_506 : decode code 506 = .ok (.invokevirtual 86, 3) := by decide +kernel
theorem d_law_509 : decode code 509 = .ok (.iload 5, 2) := by decide +kernel
theorem d_law_511 : decode code 511 = .ok (.if_icmp .eq 5, 3) := by decide +kernel
theorem d_law_514 : decode code 514 = .ok (.iconst 0, 1) := by decide +kernel
theorem d_law_515 : decode code 515 = .ok (.ireturn, 1) := by decide +kernel
theorem d_law_516 : decode code 516 = .ok (.iload 5, 2) := by decide +kernel
theorem d_law_518 : decode code 518 = .ok (.ifCond .ne 15, 3) := by decide +kernel
theorem d_law_521 : decode code 521 = .ok (.aload_n 3, 1) := by decide +kernel
theorem d_law_522 : decode code 522 = .ok (.iconst 0, 1) := by decide +kernel
theorem d_law_523 : decode code 523 = .ok (.laload, 1) := by decide +kernel
theorem d_law_524 : decode code 524 = .ok (.iload 6, 2) := by decide +kernel
theorem d_law_526 : decode code 526 = .ok (.i2l, 1) := by decide +kernel
theorem d_law_527 : decode code 527 = .ok (.lcmp, 1) := by decide +kernel
theorem d_law_528 : decode code 528 = .ok (.ifCond .eq 5, 3) := by decide +kernel
theorem d_law_531 : decode code 531 = .ok (.iconst 0, 1) := by decide +kernel
theorem d_law_532 : decode code 532 = .ok (.ireturn, 1) := by decide +kernel
theorem d_law_533 : decode code 533 = .ok (.goto 808, 3) := by decide +kernel
theorem d_law_536 : decode code 536 = .ok (.aload_n 1, 1) := by decide +kernel
theorem d_law_537 : decode code 537 = .ok (.aload_n 0, 1) := by decide +kernel
theorem d_law_538 : decode code 538 = .ok (.iload 4, 2) := by decide +kernel
theorem d_law_540 : decode code 540 = .ok (.iconst 1, 1) := by decide +kernel
theorem d_law_541 : decode code 541 = .ok (.iadd, 1) := by decide +kernel
theorem d_law_542 : decode code 542 = .ok (.iaload, 1) := by decide +kernel
theorem d_law_543 : decode code 543 = .ok (.aload_n 0, 1) := by decide +kernel
theorem d_law_544 : decode code 544 = .ok (.iload 4, 2) := by decide +kernel
theorem d_law_546 : decode code 546 = .ok (.iconst 2, 1) := by decide +kernel
theorem d_law_547 : decode code 547 = .ok (.iadd, 1) := by decide +kernel
theorem d_law_548 : decode code 548 = .ok (.iaload, 1) := by decide +kernel
theorem d_law_549 : decode code 549 = .ok (.aload_n 0, 1) := by decide +kernel
theorem d_law_550 : decode code 550 = .ok (.iload 4, 2) := by decide +kernel
theorem d_law_552 : decode code 552 = .ok (.iconst 3, 1) := by decide +kernel
theorem d_law_553 : decode code 553 = .ok (.iadd, 1) := by decide +kernel
theorem d_law_554 : decode code 554 = .ok (.iaload, 1) := by decide +kernel
theorem d_law_555 : decode code 555 = .ok (.aload_n 0, 1) := by decide +kernel
theorem d_law_556 : decode code 556 = .ok (.iload 4, 2) := by decide +kernel
theorem d_law_558 : decode code 558 = .ok (.iconst 4, 1) := by decide +kernel
theorem d_law_559 : decode code 559 = .ok (.iadd, 1) := by decide +kernel
theorem d_law_560 : decode code 560 = .ok (.iaload, 1) := by decide +kernel
theorem d_law_561 : decode code 561 = .ok (.aload_n 0, 1) := by decide +kernel
theorem d_law_562 : decode code 562 = .ok (.iload 4, 2) := by decide +kernel
theorem d_law_564 : decode code 564 = .ok (.iconst 5, 1) := by decide +kernel
theorem d_law_565 : decode code 565 = .ok (.iadd, 1) := by decide +kernel
theorem d_law_566 : decode code 566 = .ok (.iaload, 1) := by decide +kernel
theorem d_law_567 : decode code 567 = .ok (.aload_n 3, 1) := by decide +kernel
theorem d_law_568 : decode code 568 = .ok (.invokestatic 105, 3) := by decide +kernel
theorem d_law_571 : decode code 571 = .ok (.istore 5, 2) := by decide +kernel
theorem d_law_573 : decode code 573 = .ok (.aload_n 2, 1) := by decide +kernel
theorem d_law_574 : decode code 574 = .ok (.aload_n 0, 1) := by decide +kernel
theorem d_law_575 : decode code 575 = .ok (.iload 4, 2) := by decide +kernel
theorem d_law_577 : decode code 577 = .ok (.iconst 1, 1) := by decide +kernel
theorem d_law_578 : decode code 578 = .ok (.iadd, 1) := by decide +kernel
theorem d_law_579 : decode code 579 = .ok (.iaload, 1) := by decide +kernel
theorem d_law_580 : decode code 580 = .ok (.aload_n 0, 1) := by decide +kernel
theorem d_law_581 : decode code 581 = .ok (.iload 4, 2) := by decide +kernel
theorem d_law_583 : decode code 583 = .ok (.iconst 2, 1) := by decide +kernel
theorem d_law_584 : decode code 584 = .ok (.iadd, 1) := by decide +kernel
theorem d_law_585 : decode code 585 = .ok (.iaload, 1) := by decide +kernel
theorem d_law_586 : decode code 586 = .ok (.aload_n 0, 1) := by decide +kernel
theorem d_law_587 : decode code 587 = .ok (.iload 4, 2) := by decide +kernel
theorem d_law_589 : decode code 589 = .ok (.iconst 3, 1) := by decide +kernel
theorem d_law_590 : decode code 590 = .ok (.iadd, 1) := by decide +kernel
theorem d_law_591 : decode code 591 = .ok (.iaload, 1) := by decide +kernel
theorem d_law_592 : decode code 592 = .ok (.aload_n 0, 1) := by decide +kernel
theorem d_law_593 : decode code 593 = .ok (.iload 4, 2) := by decide +kernel
theorem d_law_595 : decode code 595 = .ok (.iconst 4, 1) := by decide +kernel
theorem d_law_596 : decode code 596 = .ok (.iadd, 1) := by decide +kernel
theorem d_law_597 : decode code 597 = .ok (.iaload, 1) := by decide +kernel
theorem d_law_598 : decode code 598 = .ok (.aload_n 0, 1) := by decide +kernel
theorem d_law_599 : decode code 599 = .ok (.iload 4, 2) := by decide +kernel
theorem d_law_601 : decode code 601 = .ok (.iconst 5, 1) := by decide +kernel
theorem d_law_602 : decode code 602 = .ok (.iadd, 1) := by decide +kernel
theorem d_law_603 : decode code 603 = .ok (.iaload, 1) := by decide +kernel
theorem d_law_604 : decode code 604 = .ok (.invokevirtual 107, 3) := by decide +kernel
theorem d_law_607 : decode code 607 = .ok (.istore 6, 2) := by decide +kernel
theorem d_law_609 : decode code 609 = .ok (.aload_n 2, 1) := by decide +kernel
theorem d_law_610 : decode code 610 = .ok (.invokevirtual 86, 3) := by decide +kernel
theorem d_law_613 : decode code 613 = .ok (.iload 5, 2) := by decide +kernel
theorem d_law_615 : decode code 615 = .ok (.if_icmp .eq 5, 3) := by decide +kernel
theorem d_law_618 : decode code 618 = .ok (.iconst 0, 1) := by decide +kernel
theorem d_law_619 : decode code 619 = .ok (.ireturn, 1) := by decide +kernel
theorem d_law_620 : decode code 620 = .ok (.iload 5, 2) := by decide +kernel
theorem d_law_622 : decode code 622 = .ok (.ifCond .ne 15, 3) := by decide +kernel
theorem d_law_625 : decode code 625 = .ok (.aload_n 3, 1) := by decide +kernel
theorem d_law_626 : decode code 626 = .ok (.iconst 0, 1) := by decide +kernel
theorem d_law_627 : decode code 627 = .ok (.laload, 1) := by decide +kernel
theorem d_law_628 : decode code 628 = .ok (.iload 6, 2) := by decide +kernel
theorem d_law_630 : decode code 630 = .ok (.i2l, 1) := by decide +kernel
theorem d_law_631 : decode code 631 = .ok (.lcmp, 1) := by decide +kernel
theorem d_law_632 : decode code 632 = .ok (.ifCond .eq 5, 3) := by decide +kernel
theorem d_law_635 : decode code 635 = .ok (.iconst 0, 1) := by decide +kernel
theorem d_law_636 : decode code 636 = .ok (.ireturn, 1) := by decide +kernel
theorem d_law_637 : decode code 637 = .ok (.goto 704, 3) := by decide +kernel
theorem d_law_640 : decode code 640 = .ok (.aload_n 1, 1) := by decide +kernel
theorem d_law_641 : decode code 641 = .ok (.aload_n 0, 1) := by decide +kernel
theorem d_law_642 : decode code 642 = .ok (.iload 4, 2) := by decide +kernel
theorem d_law_644 : decode code 644 = .ok (.iconst 1, 1) := by decide +kernel
theorem d_law_645 : decode code 645 = .ok (.iadd, 1) := by decide +kernel
theorem d_law_646 : decode code 646 = .ok (.iaload, 1) := by decide +kernel
theorem d_law_647 : decode code 647 = .ok (.invokestatic 108, 3) := by decide +kernel
theorem d_law_650 : decode code 650 = .ok (.istore 5, 2) := by decide +kernel
theorem d_law_652 : decode code 652 = .ok (.aload_n 2, 1) := by decide +kernel
theorem d_law_653 : decode code 653 = .ok (.aload_n 0, 1) := by decide +kernel
theorem d_law_654 : decode code 654 = .ok (.iload 4, 2) := by decide +kernel
theorem d_law_656 : decode code 656 = .ok (.iconst 1, 1) := by decide +kernel
theorem d_law_657 : decode code 657 = .ok (.iadd, 1) := by decide +kernel
theorem d_law_658 : decode code 658 = .ok (.iaload, 1) := by decide +kernel
theorem d_law_659 : decode code 659 = .ok (.invokevirtual 111, 3) := by decide +kernel
theorem d_law_662 : decode code 662 = .ok (.aload_n 2, 1) := by decide +kernel
theorem d_law_663 : decode code 663 = .ok (.invokevirtual 86, 3) := by decide +kernel
theorem d_law_666 : decode code 666 = .ok (.iload 5, 2) := by decide +kernel
theorem d_law_668 : decode code 668 = .ok (.if_icmp .eq 5, 3) := by decide +kernel
theorem d_law_671 : decode code 671 = .ok (.iconst 0, 1) := by decide +kernel
theorem d_law_672 : decode code 672 = .ok (.ireturn, 1) := by decide +kernel
theorem d_law_673 : decode code 673 = .ok (.goto 668, 3) := by decide +kernel
theorem d_law_676 : decode code 676 = .ok (.aload_n 1, 1) := by decide +kernel
theorem d_law_677 : decode code 677 = .ok (.aload_n 0, 1) := by decide +kernel
theorem d_law_678 : decode code 678 = .ok (.iload 4, 2) := by decide +kernel
theorem d_law_680 : decode code 680 = .ok (.iconst 1, 1) := by decide +kernel
theorem d_law_681 : decode code 681 = .ok (.iadd, 1) := by decide +kernel
theorem d_law_682 : decode code 682 = .ok (.iaload, 1) := by decide +kernel
theorem d_law_683 : decode code 683 = .ok (.aload_n 0, 1) := by decide +kernel
theorem d_law_684 : decode code 684 = .ok (.iload 4, 2) := by decide +kernel
theorem d_law_686 : decode code 686 = .ok (.iconst 2, 1) := by decide +kernel
theorem d_law_687 : decode code 687 = .ok (.iadd, 1) := by decide +kernel
theorem d_law_688 : decode code 688 = .ok (.iaload, 1) := by decide +kernel
theorem d_law_689 : decode code 689 = .ok (.ifCond .eq 7, 3) := by decide +kernel
theorem d_law_692 : decode code 692 = .ok (.iconst 1, 1) := by decide +kernel
theorem d_law_693 : decode code 693 = .ok (.goto 4, 3) := by decide +kernel
theorem d_law_696 : decode code 696 = .ok (.iconst 0, 1) := by decide +kernel
theorem d_law_697 : decode code 697 = .ok (.invokestatic 112, 3) := by decide +kernel
theorem d_law_700 : decode code 700 = .ok (.istore 5, 2) := by decide +kernel
theorem d_law_702 : decode code 702 = .ok (.aload_n 2, 1) := by decide +kernel
theorem d_law_703 : decode code 703 = .ok (.aload_n 0, 1) := by decide +kernel
theorem d_law_704 : decode code 704 = .ok (.iload 4, 2) := by decide +kernel
theorem d_law_706 : decode code 706 = .ok (.iconst 1, 1) := by decide +kernel
theorem d_law_707 : decode code 707 = .ok (.iadd, 1) := by decide +kernel
theorem d_law_708 : decode code 708 = .ok (.iaload, 1) := by decide +kernel
theorem d_law_709 : decode code 709 = .ok (.aload_n 0, 1) := by decide +kernel
theorem d_law_710 : decode code 710 = .ok (.iload 4, 2) := by decide +kernel
theorem d_law_712 : decode code 712 = .ok (.iconst 2, 1) := by decide +kernel
theorem d_law_713 : decode code 713 = .ok (.iadd, 1) := by decide +kernel
theorem d_law_714 : decode code 714 = .ok (.iaload, 1) := by decide +kernel
theorem d_law_715 : decode code 715 = .ok (.ifCond .eq 7, 3) := by decide +kernel
theorem d_law_718 : decode code 718 = .ok (.iconst 1, 1) := by decide +kernel
theorem d_law_719 : decode code 719 = .ok (.goto 4, 3) := by decide +kernel
theorem d_law_722 : decode code 722 = .ok (.iconst 0, 1) := by decide +kernel
theorem d_law_723 : decode code 723 = .ok (.invokevirtual 115, 3) := by decide +kernel
theorem d_law_726 : decode code 726 = .ok (.aload_n 2, 1) := by decide +kernel
theorem d_law_727 : decode code 727 = .ok (.invokevirtual 86, 3) := by decide +kernel
theorem d_law_730 : decode code 730 = .ok (.iload 5, 2) := by decide +kernel
theorem d_law_732 : decode code 732 = .ok (.if_icmp .eq 5, 3) := by decide +kernel
theorem d_law_735 : decode code 735 = .ok (.iconst 0, 1) := by decide +kernel
theorem d_law_736 : decode code 736 = .ok (.ireturn, 1) := by decide +kernel
theorem d_law_737 : decode code 737 = .ok (.goto 604, 3) := by decide +kernel
theorem d_law_740 : decode code 740 = .ok (.aload_n 1, 1) := by decide +kernel
theorem d_law_741 : decode code 741 = .ok (.aload_n 0, 1) := by decide +kernel
theorem d_law_742 : decode code 742 = .ok (.iload 4, 2) := by decide +kernel
theorem d_law_744 : decode code 744 = .ok (.iconst 1, 1) := by decide +kernel
theorem d_law_745 : decode code 745 = .ok (.iadd, 1) := by decide +kernel
theorem d_law_746 : decode code 746 = .ok (.iaload, 1) := by decide +kernel
theorem d_law_747 : decode code 747 = .ok (.ifCond .eq 7, 3) := by decide +kernel
theorem d_law_750 : decode code 750 = .ok (.iconst 1, 1) := by decide +kernel
theorem d_law_751 : decode code 751 = .ok (.goto 4, 3) := by decide +kernel
theorem d_law_754 : decode code 754 = .ok (.iconst 0, 1) := by decide +kernel
theorem d_law_755 : decode code 755 = .ok (.aload_n 0, 1) := by decide +kernel
theorem d_law_756 : decode code 756 = .ok (.iload 4, 2) := by decide +kernel
theorem d_law_758 : decode code 758 = .ok (.iconst 2, 1) := by decide +kernel
theorem d_law_759 : decode code 759 = .ok (.iadd, 1) := by decide +kernel
theorem d_law_760 : decode code 760 = .ok (.iaload, 1) := by decide +kernel
theorem d_law_761 : decode code 761 = .ok (.ifCond .eq 7, 3) := by decide +kernel
theorem d_law_764 : decode code 764 = .ok (.iconst 1, 1) := by decide +kernel
theorem d_law_765 : decode code 765 = .ok (.goto 4, 3) := by decide +kernel
theorem d_law_768 : decode code 768 = .ok (.iconst 0, 1) := by decide +kernel
theorem d_law_769 : decode code 769 = .ok (.invokevirtual 116, 3) := by decide +kernel
theorem d_law_772 : decode code 772 = .ok (.aload_n 2, 1) := by decide +kernel
theorem d_law_773 : decode code 773 = .ok (.aload_n 0, 1) := by decide +kernel
theorem d_law_774 : decode code 774 = .ok (.iload 4, 2) := by decide +kernel
theorem d_law_776 : decode code 776 = .ok (.iconst 1, 1) := by decide +kernel
theorem d_law_777 : decode code 777 = .ok (.iadd, 1) := by decide +kernel
theorem d_law_778 : decode code 778 = .ok (.iaload, 1) := by decide +kernel
theorem d_law_779 : decode code 779 = .ok (.ifCond .eq 7, 3) := by decide +kernel
theorem d_law_782 : decode code 782 = .ok (.iconst 1, 1) := by decide +kernel
theorem d_law_783 : decode code 783 = .ok (.goto 4, 3) := by decide +kernel
theorem d_law_786 : decode code 786 = .ok (.iconst 0, 1) := by decide +kernel
theorem d_law_787 : decode code 787 = .ok (.aload_n 0, 1) := by decide +kernel
theorem d_law_788 : decode code 788 = .ok (.iload 4, 2) := by decide +kernel
theorem d_law_790 : decode code 790 = .ok (.iconst 2, 1) := by decide +kernel
theorem d_law_791 : decode code 791 = .ok (.iadd, 1) := by decide +kernel
theorem d_law_792 : decode code 792 = .ok (.iaload, 1) := by decide +kernel
theorem d_law_793 : decode code 793 = .ok (.ifCond .eq 7, 3) := by decide +kernel
theorem d_law_796 : decode code 796 = .ok (.iconst 1, 1) := by decide +kernel
theorem d_law_797 : decode code 797 = .ok (.goto 4, 3) := by decide +kernel
theorem d_law_800 : decode code 800 = .ok (.iconst 0, 1) := by decide +kernel
theorem d_law_801 : decode code 801 = .ok (.invokevirtual 120, 3) := by decide +kernel
theorem d_law_804 : decode code 804 = .ok (.goto 537, 3) := by decide +kernel
theorem d_law_807 : decode code 807 = .ok (.aload_n 1, 1) := by decide +kernel
theorem d_law_808 : decode code 808 = .ok (.invokevirtual 121, 3) := by decide +kernel
theorem d_law_811 : decode code 811 = .ok (.aload_n 2, 1) := by decide +kernel
theorem d_law_812 : decode code 812 = .ok (.invokevirtual 124, 3) := by decide +kernel
theorem d_law_815 : decode code 815 = .ok (.goto 526, 3) := by decide +kernel
theorem d_law_818 : decode code 818 = .ok (.aload_n 1, 1) := by decide +kernel
theorem d_law_819 : decode code 819 = .ok (.aload_n 0, 1) := by decide +kernel
theorem d_law_820 : decode code 820 = .ok (.iload 4, 2) := by decide +kernel
theorem d_law_822 : decode code 822 = .ok (.iconst 1, 1) := by decide +kernel
theorem d_law_823 : decode code 823 = .ok (.iadd, 1) := by decide +kernel
theorem d_law_824 : decode code 824 = .ok (.iaload, 1) := by decide +kernel
theorem d_law_825 : decode code 825 = .ok (.aload_n 3, 1) := by decide +kernel
theorem d_law_826 : decode code 826 = .ok (.invokestatic 125, 3) := by decide +kernel
theorem d_law_829 : decode code 829 = .ok (.istore 5, 2) := by decide +kernel
theorem d_law_831 : decode code 831 = .ok (.aload_n 2, 1) := by decide +kernel
theorem d_law_832 : decode code 832 = .ok (.aload_n 0, 1) := by decide +kernel
theorem d_law_833 : decode code 833 = .ok (.iload 4, 2) := by decide +kernel
theorem d_law_835 : decode code 835 = .ok (.iconst 1, 1) := by decide +kernel
theorem d_law_836 : decode code 836 = .ok (.iadd, 1) := by decide +kernel
theorem d_law_837 : decode code 837 = .ok (.iaload, 1) := by decide +kernel
theorem d_law_838 : decode code 838 = .ok (.invokevirtual 127, 3) := by decide +kernel
theorem d_law_841 : decode code 841 = .ok (.istore 6, 2) := by decide +kernel
theorem d_law_843 : decode code 843 = .ok (.aload_n 2, 1) := by decide +kernel
theorem d_law_844 : decode code 844 = .ok (.invokevirtual 86, 3) := by decide +kernel
theorem d_law_847 : decode code 847 = .ok (.iload 5, 2) := by decide +kernel
theorem d_law_849 : decode code 849 = .ok (.if_icmp .eq 5, 3) := by decide +kernel
theorem d_law_852 : decode code 852 = .ok (.iconst 0, 1) := by decide +kernel
theorem d_law_853 : decode code 853 = .ok (.ireturn, 1) := by decide +kernel
theorem d_law_854 : decode code 854 = .ok (.iload 5, 2) := by decide +kernel
theorem d_law_856 : decode code 856 = .ok (.ifCond .ne 15, 3) := by decide +kernel
theorem d_law_859 : decode code 859 = .ok (.aload_n 3, 1) := by decide +kernel
theorem d_law_860 : decode code 860 = .ok (.iconst 0, 1) := by decide +kernel
theorem d_law_861 : decode code 861 = .ok (.laload, 1) := by decide +kernel
theorem d_law_862 : decode code 862 = .ok (.iload 6, 2) := by decide +kernel
theorem d_law_864 : decode code 864 = .ok (.i2l, 1) := by decide +kernel
theorem d_law_865 : decode code 865 = .ok (.lcmp, 1) := by decide +kernel
theorem d_law_866 : decode code 866 = .ok (.ifCond .eq 5, 3) := by decide +kernel
theorem d_law_869 : decode code 869 = .ok (.iconst 0, 1) := by decide +kernel
theorem d_law_870 : decode code 870 = .ok (.ireturn, 1) := by decide +kernel
theorem d_law_871 : decode code 871 = .ok (.goto 470, 3) := by decide +kernel
theorem d_law_874 : decode code 874 = .ok (.aload_n 1, 1) := by decide +kernel
theorem d_law_875 : decode code 875 = .ok (.aload_n 0, 1) := by decide +kernel
theorem d_law_876 : decode code 876 = .ok (.iload 4, 2) := by decide +kernel
theorem d_law_878 : decode code 878 = .ok (.iconst 1, 1) := by decide +kernel
theorem d_law_879 : decode code 879 = .ok (.iadd, 1) := by decide +kernel
theorem d_law_880 : decode code 880 = .ok (.iaload, 1) := by decide +kernel
theorem d_law_881 : decode code 881 = .ok (.aload_n 3, 1) := by decide +kernel
theorem d_law_882 : decode code 882 = .ok (.invokestatic 128, 3) := by decide +kernel
theorem d_law_885 : decode code 885 = .ok (.istore 5, 2) := by decide +kernel
theorem d_law_887 : decode code 887 = .ok (.aload_n 2, 1) := by decide +kernel
theorem d_law_888 : decode code 888 = .ok (.aload_n 0, 1) := by decide +kernel
theorem d_law_889 : decode code 889 = .ok (.iload 4, 2) := by decide +kernel
theorem d_law_891 : decode code 891 = .ok (.iconst 1, 1) := by decide +kernel
theorem d_law_892 : decode code 892 = .ok (.iadd, 1) := by decide +kernel
theorem d_law_893 : decode code 893 = .ok (.iaload, 1) := by decide +kernel
theorem d_law_894 : decode code 894 = .ok (.invokevirtual 130, 3) := by decide +kernel
theorem d_law_897 : decode code 897 = .ok (.istore 6, 2) := by decide +kernel
theorem d_law_899 : decode code 899 = .ok (.aload_n 2, 1) := by decide +kernel
theorem d_law_900 : decode code 900 = .ok (.invokevirtual 86, 3) := by decide +kernel
theorem d_law_903 : decode code 903 = .ok (.iload 5, 2) := by decide +kernel
theorem d_law_905 : decode code 905 = .ok (.if_icmp .eq 5, 3) := by decide +kernel
theorem d_law_908 : decode code 908 = .ok (.iconst 0, 1) := by decide +kernel
theorem d_law_909 : decode code 909 = .ok (.ireturn, 1) := by decide +kernel
theorem d_law_910 : decode code 910 = .ok (.iload 5, 2) := by decide +kernel
theorem d_law_912 : decode code 912 = .ok (.ifCond .ne 15, 3) := by decide +kernel
theorem d_law_915 : decode code 915 = .ok (.aload_n 3, 1) := by decide +kernel
theorem d_law_916 : decode code 916 = .ok (.iconst 0, 1) := by decide +kernel
theorem d_law_917 : decode code 917 = .ok (.laload, 1) := by decide +kernel
theorem d_law_918 : decode code 918 = .ok (.iload 6, 2) := by decide +kernel
theorem d_law_920 : decode code 920 = .ok (.i2l, 1) := by decide +kernel
theorem d_law_921 : decode code 921 = .ok (.lcmp, 1) := by decide +kernel
theorem d_law_922 : decode code 922 = .ok (.ifCond .eq 5, 3) := by decide +kernel
theorem d_law_925 : decode code 925 = .ok (.iconst 0, 1) := by decide +kernel
theorem d_law_926 : decode code 926 = .ok (.ireturn, 1) := by decide +kernel
theorem d_law_927 : decode code 927 = .ok (.goto 414, 3) := by decide +kernel
theorem d_law_930 : decode code 930 = .ok (.aload_n 1, 1) := by decide +kernel
theorem d_law_931 : decode code 931 = .ok (.aload_n 0, 1) := by decide +kernel
theorem d_law_932 : decode code 932 = .ok (.iload 4, 2) := by decide +kernel
theorem d_law_934 : decode code 934 = .ok (.iconst 1, 1) := by decide +kernel
theorem d_law_935 : decode code 935 = .ok (.iadd, 1) := by decide +kernel
theorem d_law_936 : decode code 936 = .ok (.iaload, 1) := by decide +kernel
theorem d_law_937 : decode code 937 = .ok (.aload_n 3, 1) := by decide +kernel
theorem d_law_938 : decode code 938 = .ok (.invokestatic 131, 3) := by decide +kernel
theorem d_law_941 : decode code 941 = .ok (.istore 5, 2) := by decide +kernel
theorem d_law_943 : decode code 943 = .ok (.aload_n 2, 1) := by decide +kernel
theorem d_law_944 : decode code 944 = .ok (.aload_n 0, 1) := by decide +kernel
theorem d_law_945 : decode code 945 = .ok (.iload 4, 2) := by decide +kernel
theorem d_law_947 : decode code 947 = .ok (.iconst 1, 1) := by decide +kernel
theorem d_law_948 : decode code 948 = .ok (.iadd, 1) := by decide +kernel
theorem d_law_949 : decode code 949 = .ok (.iaload, 1) := by decide +kernel
theorem d_law_950 : decode code 950 = .ok (.invokevirtual 133, 3) := by decide +kernel
theorem d_law_953 : decode code 953 = .ok (.istore 6, 2) := by decide +kernel
theorem d_law_955 : decode code 955 = .ok (.aload_n 2, 1) := by decide +kernel
theorem d_law_956 : decode code 956 = .ok (.invokevirtual 86, 3) := by decide +kernel
theorem d_law_959 : decode code 959 = .ok (.iload 5, 2) := by decide +kernel
theorem d_law_961 : decode code 961 = .ok (.if_icmp .eq 5, 3) := by decide +kernel
theorem d_law_964 : decode code 964 = .ok (.iconst 0, 1) := by decide +kernel
theorem d_law_965 : decode code 965 = .ok (.ireturn, 1) := by decide +kernel
theorem d_law_966 : decode code 966 = .ok (.iload 5, 2) := by decide +kernel
theorem d_law_968 : decode code 968 = .ok (.ifCond .ne 22, 3) := by decide +kernel
theorem d_law_971 : decode code 971 = .ok (.aload_n 3, 1) := by decide +kernel
theorem d_law_972 : decode code 972 = .ok (.iconst 0, 1) := by decide +kernel
theorem d_law_973 : decode code 973 = .ok (.laload, 1) := by decide +kernel
theorem d_law_974 : decode code 974 = .ok (.iload 6, 2) := by decide +kernel
theorem d_law_976 : decode code 976 = .ok (.ifCond .eq 7, 3) := by decide +kernel
theorem d_law_979 : decode code 979 = .ok (.lconst 1, 1) := by decide +kernel
theorem d_law_980 : decode code 980 = .ok (.goto 4, 3) := by decide +kernel
theorem d_law_983 : decode code 983 = .ok (.lconst 0, 1) := by decide +kernel
theorem d_law_984 : decode code 984 = .ok (.lcmp, 1) := by decide +kernel
theorem d_law_985 : decode code 985 = .ok (.ifCond .eq 5, 3) := by decide +kernel
theorem d_law_988 : decode code 988 = .ok (.iconst 0, 1) := by decide +kernel
theorem d_law_989 : decode code 989 = .ok (.ireturn, 1) := by decide +kernel
theorem d_law_990 : decode code 990 = .ok (.goto 351, 3) := by decide +kernel
theorem d_law_993 : decode code 993 = .ok (.aload_n 1, 1) := by decide +kernel
theorem d_law_994 : decode code 994 = .ok (.aload_n 0, 1) := by decide +kernel
theorem d_law_995 : decode code 995 = .ok (.iload 4, 2) := by decide +kernel
theorem d_law_997 : decode code 997 = .ok (.iconst 1, 1) := by decide +kernel
theorem d_law_998 : decode code 998 = .ok (.iadd, 1) := by decide +kernel
theorem d_law_999 : decode code 999 = .ok (.iaload, 1) := by decide +kernel
theorem d_law_1000 : decode code 1000 = .ok (.aload_n 3, 1) := by decide +kernel
theorem d_law_1001 : decode code 1001 = .ok (.invokestatic 134, 3) := by decide +kernel
theorem d_law_1004 : decode code 1004 = .ok (.istore 5, 2) := by decide +kernel
theorem d_law_1006 : decode code 1006 = .ok (.aload_n 2, 1) := by decide +kernel
theorem d_law_1007 : decode code 1007 = .ok (.aload_n 0, 1) := by decide +kernel
theorem d_law_1008 : decode code 1008 = .ok (.iload 4, 2) := by decide +kernel
theorem d_law_1010 : decode code 1010 = .ok (.iconst 1, 1) := by decide +kernel
theorem d_law_1011 : decode code 1011 = .ok (.iadd, 1) := by decide +kernel
theorem d_law_1012 : decode code 1012 = .ok (.iaload, 1) := by decide +kernel
theorem d_law_1013 : decode code 1013 = .ok (.invokevirtual 136, 3) := by decide +kernel
theorem d_law_1016 : decode code 1016 = .ok (.istore 6, 2) := by decide +kernel
theorem d_law_1018 : decode code 1018 = .ok (.aload_n 2, 1) := by decide +kernel
theorem d_law_1019 : decode code 1019 = .ok (.invokevirtual 86, 3) := by decide +kernel
theorem d_law_1022 : decode code 1022 = .ok (.iload 5, 2) := by decide +kernel
theorem d_law_1024 : decode code 1024 = .ok (.if_icmp .eq 5, 3) := by decide +kernel
theorem d_law_1027 : decode code 1027 = .ok (.iconst 0, 1) := by decide +kernel
theorem d_law_1028 : decode code 1028 = .ok (.ireturn, 1) := by decide +kernel
theorem d_law_1029 : decode code 1029 = .ok (.iload 5, 2) := by decide +kernel
theorem d_law_1031 : decode code 1031 = .ok (.ifCond .ne 15, 3) := by decide +kernel
theorem d_law_1034 : decode code 1034 = .ok (.aload_n 3, 1) := by decide +kernel
theorem d_law_1035 : decode code 1035 = .ok (.iconst 0, 1) := by decide +kernel
theorem d_law_1036 : decode code 1036 = .ok (.laload, 1) := by decide +kernel
theorem d_law_1037 : decode code 1037 = .ok (.iload 6, 2) := by decide +kernel
theorem d_law_1039 : decode code 1039 = .ok (.i2l, 1) := by decide +kernel
theorem d_law_1040 : decode code 1040 = .ok (.lcmp, 1) := by decide +kernel
theorem d_law_1041 : decode code 1041 = .ok (.ifCond .eq 5, 3) := by decide +kernel
theorem d_law_1044 : decode code 1044 = .ok (.iconst 0, 1) := by decide +kernel
theorem d_law_1045 : decode code 1045 = .ok (.ireturn, 1) := by decide +kernel
theorem d_law_1046 : decode code 1046 = .ok (.goto 295, 3) := by decide +kernel
theorem d_law_1049 : decode code 1049 = .ok (.aload_n 1, 1) := by decide +kernel
theorem d_law_1050 : decode code 1050 = .ok (.aload_n 0, 1) := by decide +kernel
theorem d_law_1051 : decode code 1051 = .ok (.iload 4, 2) := by decide +kernel
theorem d_law_1053 : decode code 1053 = .ok (.iconst 1, 1) := by decide +kernel
theorem d_law_1054 : decode code 1054 = .ok (.iadd, 1) := by decide +kernel
theorem d_law_1055 : decode code 1055 = .ok (.iaload, 1) := by decide +kernel
theorem d_law_1056 : decode code 1056 = .ok (.aload_n 3, 1) := by decide +kernel
theorem d_law_1057 : decode code 1057 = .ok (.invokestatic 137, 3) := by decide +kernel
theorem d_law_1060 : decode code 1060 = .ok (.istore 5, 2) := by decide +kernel
theorem d_law_1062 : decode code 1062 = .ok (.aload_n 2, 1) := by decide +kernel
theorem d_law_1063 : decode code 1063 = .ok (.aload_n 0, 1) := by decide +kernel
theorem d_law_1064 : decode code 1064 = .ok (.iload 4, 2) := by decide +kernel
theorem d_law_1066 : decode code 1066 = .ok (.iconst 1, 1) := by decide +kernel
theorem d_law_1067 : decode code 1067 = .ok (.iadd, 1) := by decide +kernel
theorem d_law_1068 : decode code 1068 = .ok (.iaload, 1) := by decide +kernel
theorem d_law_1069 : decode code 1069 = .ok (.invokevirtual 139, 3) := by decide +kernel
theorem d_law_1072 : decode code 1072 = .ok (.istore 6, 2) := by decide +kernel
theorem d_law_1074 : decode code 1074 = .ok (.aload_n 2, 1) := by decide +kernel
theorem d_law_1075 : decode code 1075 = .ok (.invokevirtual 86, 3) := by decide +kernel
theorem d_law_1078 : decode code 1078 = .ok (.iload 5, 2) := by decide +kernel
theorem d_law_1080 : decode code 1080 = .ok (.if_icmp .eq 5, 3) := by decide +kernel
theorem d_law_1083 : decode code 1083 = .ok (.iconst 0, 1) := by decide +kernel
theorem d_law_1084 : decode code 1084 = .ok (.ireturn, 1) := by decide +kernel
theorem d_law_1085 : decode code 1085 = .ok (.iload 5, 2) := by decide +kernel
theorem d_law_1087 : decode code 1087 = .ok (.ifCond .ne 15, 3) := by decide +kernel
theorem d_law_1090 : decode code 1090 = .ok (.aload_n 3, 1) := by decide +kernel
theorem d_law_1091 : decode code 1091 = .ok (.iconst 0, 1) := by decide +kernel
theorem d_law_1092 : decode code 1092 = .ok (.laload, 1) := by decide +kernel
theorem d_law_1093 : decode code 1093 = .ok (.iload 6, 2) := by decide +kernel
theorem d_law_1095 : decode code 1095 = .ok (.i2l, 1) := by decide +kernel
theorem d_law_1096 : decode code 1096 = .ok (.lcmp, 1) := by decide +kernel
theorem d_law_1097 : decode code 1097 = .ok (.ifCond .eq 5, 3) := by decide +kernel
theorem d_law_1100 : decode code 1100 = .ok (.iconst 0, 1) := by decide +kernel
theorem d_law_1101 : decode code 1101 = .ok (.ireturn, 1) := by decide +kernel
theorem d_law_1102 : decode code 1102 = .ok (.goto 239, 3) := by decide +kernel
theorem d_law_1105 : decode code 1105 = .ok (.aload_n 1, 1) := by decide +kernel
theorem d_law_1106 : decode code 1106 = .ok (.aload_n 0, 1) := by decide +kernel
theorem d_law_1107 : decode code 1107 = .ok (.iload 4, 2) := by decide +kernel
theorem d_law_1109 : decode code 1109 = .ok (.iconst 1, 1) := by decide +kernel
theorem d_law_1110 : decode code 1110 = .ok (.iadd, 1) := by decide +kernel
theorem d_law_1111 : decode code 1111 = .ok (.iaload, 1) := by decide +kernel
theorem d_law_1112 : decode code 1112 = .ok (.aload_n 0, 1) := by decide +kernel
theorem d_law_1113 : decode code 1113 = .ok (.iload 4, 2) := by decide +kernel
theorem d_law_1115 : decode code 1115 = .ok (.iconst 2, 1) := by decide +kernel
theorem d_law_1116 : decode code 1116 = .ok (.iadd, 1) := by decide +kernel
theorem d_law_1117 : decode code 1117 = .ok (.iaload, 1) := by decide +kernel
theorem d_law_1118 : decode code 1118 = .ok (.aload_n 3, 1) := by decide +kernel
theorem d_law_1119 : decode code 1119 = .ok (.invokestatic 140, 3) := by decide +kernel
theorem d_law_1122 : decode code 1122 = .ok (.istore 5, 2) := by decide +kernel
theorem d_law_1124 : decode code 1124 = .ok (.aload_n 2, 1) := by decide +kernel
theorem d_law_1125 : decode code 1125 = .ok (.aload_n 0, 1) := by decide +kernel
theorem d_law_1126 : decode code 1126 = .ok (.iload 4, 2) := by decide +kernel
theorem d_law_1128 : decode code 1128 = .ok (.iconst 1, 1) := by decide +kernel
theorem d_law_1129 : decode code 1129 = .ok (.iadd, 1) := by decide +kernel
theorem d_law_1130 : decode code 1130 = .ok (.iaload, 1) := by decide +kernel
theorem d_law_1131 : decode code 1131 = .ok (.aload_n 0, 1) := by decide +kernel
theorem d_law_1132 : decode code 1132 = .ok (.iload 4, 2) := by decide +kernel
theorem d_law_1134 : decode code 1134 = .ok (.iconst 2, 1) := by decide +kernel
theorem d_law_1135 : decode code 1135 = .ok (.iadd, 1) := by decide +kernel
theorem d_law_1136 : decode code 1136 = .ok (.iaload, 1) := by decide +kernel
theorem d_law_1137 : decode code 1137 = .ok (.invokevirtual 143, 3) := by decide +kernel
theorem d_law_1140 : decode code 1140 = .ok (.istore 6, 2) := by decide +kernel
theorem d_law_1142 : decode code 1142 = .ok (.aload_n 2, 1) := by decide +kernel
theorem d_law_1143 : decode code 1143 = .ok (.invokevirtual 86, 3) := by decide +kernel
theorem d_law_1146 : decode code 1146 = .ok (.iload 5, 2) := by decide +kernel
theorem d_law_1148 : decode code 1148 = .ok (.if_icmp .eq 5, 3) := by decide +kernel
theorem d_law_1151 : decode code 1151 = .ok (.iconst 0, 1) := by decide +kernel
theorem d_law_1152 : decode code 1152 = .ok (.ireturn, 1) := by decide +kernel
theorem d_law_1153 : decode code 1153 = .ok (.iload 5, 2) := by decide +kernel
theorem d_law_1155 : decode code 1155 = .ok (.ifCond .ne 15, 3) := by decide +kernel
theorem d_law_1158 : decode code 1158 = .ok (.aload_n 3, 1) := by decide +kernel
theorem d_law_1159 : decode code 1159 = .ok (.iconst 0, 1) := by decide +kernel
theorem d_law_1160 : decode code 1160 = .ok (.laload, 1) := by decide +kernel
theorem d_law_1161 : decode code 1161 = .ok (.iload 6, 2) := by decide +kernel
theorem d_law_1163 : decode code 1163 = .ok (.i2l, 1) := by decide +kernel
theorem d_law_1164 : decode code 1164 = .ok (.lcmp, 1) := by decide +kernel
theorem d_law_1165 : decode code 1165 = .ok (.ifCond .eq 5, 3) := by decide +kernel
theorem d_law_1168 : decode code 1168 = .ok (.iconst 0, 1) := by decide +kernel
theorem d_law_1169 : decode code 1169 = .ok (.ireturn, 1) := by decide +kernel
theorem d_law_1170 : decode code 1170 = .ok (.goto 171, 3) := by decide +kernel
theorem d_law_1173 : decode code 1173 = .ok (.aload_n 1, 1) := by decide +kernel
theorem d_law_1174 : decode code 1174 = .ok (.aload_n 0, 1) := by decide +kernel
theorem d_law_1175 : decode code 1175 = .ok (.iload 4, 2) := by decide +kernel
theorem d_law_1177 : decode code 1177 = .ok (.iconst 1, 1) := by decide +kernel
theorem d_law_1178 : decode code 1178 = .ok (.iadd, 1) := by decide +kernel
theorem d_law_1179 : decode code 1179 = .ok (.iaload, 1) := by decide +kernel
theorem d_law_1180 : decode code 1180 = .ok (.aload_n 3, 1) := by decide +kernel
theorem d_law_1181 : decode code 1181 = .ok (.invokestatic 144, 3) := by decide +kernel
theorem d_law_1184 : decode code 1184 = .ok (.istore 5, 2) := by decide +kernel
theorem d_law_1186 : decode code 1186 = .ok (.aload_n 2, 1) := by decide +kernel
theorem d_law_1187 : decode code 1187 = .ok (.aload_n 0, 1) := by decide +kernel
theorem d_law_1188 : decode code 1188 = .ok (.iload 4, 2) := by decide +kernel
theorem d_law_1190 : decode code 1190 = .ok (.iconst 1, 1) := by decide +kernel
theorem d_law_1191 : decode code 1191 = .ok (.iadd, 1) := by decide +kernel
theorem d_law_1192 : decode code 1192 = .ok (.iaload, 1) := by decide +kernel
theorem d_law_1193 : decode code 1193 = .ok (.invokevirtual 146, 3) := by decide +kernel
theorem d_law_1196 : decode code 1196 = .ok (.istore 6, 2) := by decide +kernel
theorem d_law_1198 : decode code 1198 = .ok (.aload_n 2, 1) := by decide +kernel
theorem d_law_1199 : decode code 1199 = .ok (.invokevirtual 86, 3) := by decide +kernel
theorem d_law_1202 : decode code 1202 = .ok (.iload 5, 2) := by decide +kernel
theorem d_law_1204 : decode code 1204 = .ok (.if_icmp .eq 5, 3) := by decide +kernel
theorem d_law_1207 : decode code 1207 = .ok (.iconst 0, 1) := by decide +kernel
theorem d_law_1208 : decode code 1208 = .ok (.ireturn, 1) := by decide +kernel
theorem d_law_1209 : decode code 1209 = .ok (.iload 5, 2) := by decide +kernel
theorem d_law_1211 : decode code 1211 = .ok (.ifCond .ne 15, 3) := by decide +kernel
theorem d_law_1214 : decode code 1214 = .ok (.aload_n 3, 1) := by decide +kernel
theorem d_law_1215 : decode code 1215 = .ok (.iconst 0, 1) := by decide +kernel
theorem d_law_1216 : decode code 1216 = .ok (.laload, 1) := by decide +kernel
theorem d_law_1217 : decode code 1217 = .ok (.iload 6, 2) := by decide +kernel
theorem d_law_1219 : decode code 1219 = .ok (.i2l, 1) := by decide +kernel
theorem d_law_1220 : decode code 1220 = .ok (.lcmp, 1) := by decide +kernel
theorem d_law_1221 : decode code 1221 = .ok (.ifCond .eq 5, 3) := by decide +kernel
theorem d_law_1224 : decode code 1224 = .ok (.iconst 0, 1) := by decide +kernel
theorem d_law_1225 : decode code 1225 = .ok (.ireturn, 1) := by decide +kernel
theorem d_law_1226 : decode code 1226 = .ok (.goto 115, 3) := by decide +kernel
theorem d_law_1229 : decode code 1229 = .ok (.aload_n 1, 1) := by decide +kernel
theorem d_law_1230 : decode code 1230 = .ok (.aload_n 0, 1) := by decide +kernel
theorem d_law_1231 : decode code 1231 = .ok (.iload 4, 2) := by decide +kernel
theorem d_law_1233 : decode code 1233 = .ok (.iconst 1, 1) := by decide +kernel
theorem d_law_1234 : decode code 1234 = .ok (.iadd, 1) := by decide +kernel
theorem d_law_1235 : decode code 1235 = .ok (.iaload, 1) := by decide +kernel
theorem d_law_1236 : decode code 1236 = .ok (.aload_n 3, 1) := by decide +kernel
theorem d_law_1237 : decode code 1237 = .ok (.invokestatic 147, 3) := by decide +kernel
theorem d_law_1240 : decode code 1240 = .ok (.istore 5, 2) := by decide +kernel
theorem d_law_1242 : decode code 1242 = .ok (.aload_n 2, 1) := by decide +kernel
theorem d_law_1243 : decode code 1243 = .ok (.aload_n 0, 1) := by decide +kernel
theorem d_law_1244 : decode code 1244 = .ok (.iload 4, 2) := by decide +kernel
theorem d_law_1246 : decode code 1246 = .ok (.iconst 1, 1) := by decide +kernel
theorem d_law_1247 : decode code 1247 = .ok (.iadd, 1) := by decide +kernel
theorem d_law_1248 : decode code 1248 = .ok (.iaload, 1) := by decide +kernel
theorem d_law_1249 : decode code 1249 = .ok (.invokevirtual 149, 3) := by decide +kernel
theorem d_law_1252 : decode code 1252 = .ok (.istore 6, 2) := by decide +kernel
theorem d_law_1254 : decode code 1254 = .ok (.aload_n 2, 1) := by decide +kernel
theorem d_law_1255 : decode code 1255 = .ok (.invokevirtual 86, 3) := by decide +kernel
theorem d_law_1258 : decode code 1258 = .ok (.iload 5, 2) := by decide +kernel
theorem d_law_1260 : decode code 1260 = .ok (.if_icmp .eq 5, 3) := by decide +kernel
theorem d_law_1263 : decode code 1263 = .ok (.iconst 0, 1) := by decide +kernel
theorem d_law_1264 : decode code 1264 = .ok (.ireturn, 1) := by decide +kernel
theorem d_law_1265 : decode code 1265 = .ok (.iload 5, 2) := by decide +kernel
theorem d_law_1267 : decode code 1267 = .ok (.ifCond .ne 15, 3) := by decide +kernel
theorem d_law_1270 : decode code 1270 = .ok (.aload_n 3, 1) := by decide +kernel
theorem d_law_1271 : decode code 1271 = .ok (.iconst 0, 1) := by decide +kernel
theorem d_law_1272 : decode code 1272 = .ok (.laload, 1) := by decide +kernel
theorem d_law_1273 : decode code 1273 = .ok (.iload 6, 2) := by decide +kernel
theorem d_law_1275 : decode code 1275 = .ok (.i2l, 1) := by decide +kernel
theorem d_law_1276 : decode code 1276 = .ok (.lcmp, 1) := by decide +kernel
theorem d_law_1277 : decode code 1277 = .ok (.ifCond .eq 5, 3) := by decide +kernel
theorem d_law_1280 : decode code 1280 = .ok (.iconst 0, 1) := by decide +kernel
theorem d_law_1281 : decode code 1281 = .ok (.ireturn, 1) := by decide +kernel
theorem d_law_1282 : decode code 1282 = .ok (.goto 59, 3) := by decide +kernel
theorem d_law_1285 : decode code 1285 = .ok (.aload_n 1, 1) := by decide +kernel
theorem d_law_1286 : decode code 1286 = .ok (.aload_n 0, 1) := by decide +kernel
theorem d_law_1287 : decode code 1287 = .ok (.iload 4, 2) := by decide +kernel
theorem d_law_1289 : decode code 1289 = .ok (.iconst 1, 1) := by decide +kernel
theorem d_law_1290 : decode code 1290 = .ok (.iadd, 1) := by decide +kernel
theorem d_law_1291 : decode code 1291 = .ok (.iaload, 1) := by decide +kernel
theorem d_law_1292 : decode code 1292 = .ok (.aload_n 3, 1) := by decide +kernel
theorem d_law_1293 : decode code 1293 = .ok (.invokestatic 150, 3) := by decide +kernel
theorem d_law_1296 : decode code 1296 = .ok (.istore 5, 2) := by decide +kernel
theorem d_law_1298 : decode code 1298 = .ok (.aload_n 2, 1) := by decide +kernel
theorem d_law_1299 : decode code 1299 = .ok (.aload_n 0, 1) := by decide +kernel
theorem d_law_1300 : decode code 1300 = .ok (.iload 4, 2) := by decide +kernel
theorem d_law_1302 : decode code 1302 = .ok (.iconst 1, 1) := by decide +kernel
theorem d_law_1303 : decode code 1303 = .ok (.iadd, 1) := by decide +kernel
theorem d_law_1304 : decode code 1304 = .ok (.iaload, 1) := by decide +kernel
theorem d_law_1305 : decode code 1305 = .ok (.invokevirtual 152, 3) := by decide +kernel
theorem d_law_1308 : decode code 1308 = .ok (.istore 6, 2) := by decide +kernel
theorem d_law_1310 : decode code 1310 = .ok (.aload_n 2, 1) := by decide +kernel
theorem d_law_1311 : decode code 1311 = .ok (.invokevirtual 86, 3) := by decide +kernel
theorem d_law_1314 : decode code 1314 = .ok (.iload 5, 2) := by decide +kernel
theorem d_law_1316 : decode code 1316 = .ok (.if_icmp .eq 5, 3) := by decide +kernel
theorem d_law_1319 : decode code 1319 = .ok (.iconst 0, 1) := by decide +kernel
theorem d_law_1320 : decode code 1320 = .ok (.ireturn, 1) := by decide +kernel
theorem d_law_1321 : decode code 1321 = .ok (.iload 5, 2) := by decide +kernel
theorem d_law_1323 : decode code 1323 = .ok (.ifCond .ne 15, 3) := by decide +kernel
theorem d_law_1326 : decode code 1326 = .ok (.aload_n 3, 1) := by decide +kernel
theorem d_law_1327 : decode code 1327 = .ok (.iconst 0, 1) := by decide +kernel
theorem d_law_1328 : decode code 1328 = .ok (.laload, 1) := by decide +kernel
theorem d_law_1329 : decode code 1329 = .ok (.iload 6, 2) := by decide +kernel
theorem d_law_1331 : decode code 1331 = .ok (.i2l, 1) := by decide +kernel
theorem d_law_1332 : decode code 1332 = .ok (.lcmp, 1) := by decide +kernel
theorem d_law_1333 : decode code 1333 = .ok (.ifCond .eq 5, 3) := by decide +kernel
theorem d_law_1336 : decode code 1336 = .ok (.iconst 0, 1) := by decide +kernel
theorem d_law_1337 : decode code 1337 = .ok (.ireturn, 1) := by decide +kernel
theorem d_law_1338 : decode code 1338 = .ok (.goto 3, 3) := by decide +kernel
theorem d_law_1341 : decode code 1341 = .ok (.iinc 4 6, 3) := by decide +kernel
theorem d_law_1344 : decode code 1344 = .ok (.goto (-1321), 3) := by decide +kernel
theorem d_law_1347 : decode code 1347 = .ok (.iconst 1, 1) := by decide +kernel
theorem d_law_1348 : decode code 1348 = .ok (.ireturn, 1) := by decide +kernel
