theorem fp_Ly : FPc 0 := ⟨R_Ly, F_Ly, N_Ly, t_Ly, rfl, t_Ly_ok, n_Ly⟩
theorem fp_Un : FPc 1 := ⟨R_Un, F_Un, N_Un, t_Un, rfl, t_Un_ok, n_Un⟩
theorem fp_Se : FPc 2 := ⟨R_Se, F_Se, N_Se, t_Se, rfl, t_Se_ok, n_Se⟩
theorem fp_Sy : FPc 3 := ⟨R_Sy, F_Sy, N_Sy, t_Sy, rfl, t_Sy_ok, n_Sy⟩
theorem fp_Re : FPc 4 := ⟨R_Re, F_Re, N_Re, t_Re, rfl, t_Re_ok, n_Re⟩
theorem fp_Ar : FPc 5 := ⟨R_Ar, F_Ar, N_Ar, t_Ar, rfl, t_Ar_ok, n_Ar⟩
theorem fp_Na : FPc 6 := ⟨R_Na, F_Na, N_Na, t_Na, rfl, t_Na_ok, n_Na⟩
theorem fp_Rc : FPc 7 := ⟨R_Rc, F_Rc, N_Rc, t_Rc, rfl, t_Rc_ok, n_Rc⟩
theorem fp_Fo : FPc 8 := ⟨R_Fo, F_Fo, N_Fo, t_Fo, rfl, t_Fo_ok, n_Fo⟩
theorem fp_La : FPc 9 := ⟨R_La, F_La, N_La, t_La, rfl, t_La_ok, n_La⟩
theorem fp_Is : FPc 10 := ⟨R_Is, F_Is, N_Is, t_Is, rfl, t_Is_ok, n_Is⟩
theorem fp_Me : FPc 11 := ⟨R_Me, F_Me, N_Me, t_Me, rfl, t_Me_ok, n_Me⟩
theorem fp_Mo : FPc 12 := ⟨R_Mo, F_Mo, N_Mo, t_Mo, rfl, t_Mo_ok, n_Mo⟩
def shpC : List Shp := [.inl (0, [some 1, some 2, some 3, some 4, some 5, some 6, some 7, some 8, some 9, some 10, some 11, none, none, none, none, none, none, none]), .inl (1, [none, some 12, some 13]), .inl (2, [none, none, none, some 14, some 15, some 16, some 17, some 18, some 19, some 20]), .inl (3, [none, some 21, some 22, some 23, some 24, some 25, some 26]), .inl (4, [none, some 27, some 28, some 29, some 30, some 31, some 32, some 33, some 34]), .inl (5, [some 1, some 3, some 35, some 36]), .inl (6, [some 1, some 3, some 37, some 38, some 39, none, some 40, some 41, some 42]), .inl (7, [some 1, some 2, some 4, some 6, some 43, some 44, none, some 45]), .inl (8, [some 2, some 4, some 6, some 7, some 46, some 47]), .inl (9, [some 2, some 6, some 7, some 8, none, none, none, none, some 48, some 49]), .inl (10, [some 2, some 4, some 6, some 8, some 9, none, none, some 50, some 51, some 52, some 53]), .inl (11, [some 2, some 4, some 9, some 10]), .inr (false, some 24), .inr (true, some 24), .inr (false, none), .inr (false, some 96), .inr (false, some 96), .inr (false, some 96), .inr (false, some 96), .inr (false, some 96), .inr (true, some 96), .inr (false, some 400), .inr (false, some 400), .inr (false, some 400), .inr (false, some 400), .inr (false, some 400), .inr (false, some 400), .inr (false, some 600), .inr (false, some 600), .inr (false, some 600), .inr (false, some 600), .inr (false, some 600), .inr (false, some 600), .inr (false, some 97), .inr (false, some 96), .inr (true, some 200), .inr (true, some 200), .inr (false, some 200), .inr (false, some 200), .inr (false, some 200), .inr (false, some 400), .inr (false, some 400), .inr (false, some 400), .inr (true, some 96), .inr (true, some 200), .inr (false, some 96), .inr (false, some 96), .inr (false, some 96), .inr (false, some 96), .inr (false, some 200), .inr (false, some 32), .inr (false, some 32), .inr (false, some 32), .inr (false, some 600)]
theorem sc_0 : shpC[0]? = some (.inl (0, [some 1, some 2, some 3, some 4, some 5, some 6, some 7, some 8, some 9, some 10, some 11, none, none, none, none, none, none, none])) := rfl
theorem sc_1 : shpC[1]? = some (.inl (1, [none, some 12, some 13])) := rfl
theorem sc_2 : shpC[2]? = some (.inl (2, [none, none, none, some 14, some 15, some 16, some 17, some 18, some 19, some 20])) := rfl
theorem sc_3 : shpC[3]? = some (.inl (3, [none, some 21, some 22, some 23, some 24, some 25, some 26])) := rfl
theorem sc_4 : shpC[4]? = some (.inl (4, [none, some 27, some 28, some 29, some 30, some 31, some 32, some 33, some 34])) := rfl
theorem sc_5 : shpC[5]? = some (.inl (5, [some 1, some 3, some 35, some 36])) := rfl
theorem sc_6 : shpC[6]? = some (.inl (6, [some 1, some 3, some 37, some 38, some 39, none, some 40, some 41, some 42])) := rfl
theorem sc_7 : shpC[7]? = some (.inl (7, [some 1, some 2, some 4, some 6, some 43, some 44, none, some 45])) := rfl
theorem sc_8 : shpC[8]? = some (.inl (8, [some 2, some 4, some 6, some 7, some 46, some 47])) := rfl
theorem sc_9 : shpC[9]? = some (.inl (9, [some 2, some 6, some 7, some 8, none, none, none, none, some 48, some 49])) := rfl
theorem sc_10 : shpC[10]? = some (.inl (10, [some 2, some 4, some 6, some 8, some 9, none, none, some 50, some 51, some 52, some 53])) := rfl
theorem sc_11 : shpC[11]? = some (.inl (11, [some 2, some 4, some 9, some 10])) := rfl
theorem sc_12 : shpC[12]? = some (.inr (false, some 24)) := rfl
theorem sc_13 : shpC[13]? = some (.inr (true, some 24)) := rfl
theorem sc_14 : shpC[14]? = some (.inr (false, none)) := rfl
theorem sc_15 : shpC[15]? = some (.inr (false, some 96)) := rfl
theorem sc_16 : shpC[16]? = some (.inr (false, some 96)) := rfl
theorem sc_17 : shpC[17]? = some (.inr (false, some 96)) := rfl
theorem sc_18 : shpC[18]? = some (.inr (false, some 96)) := rfl
theorem sc_19 : shpC[19]? = some (.inr (false, some 96)) := rfl
theorem sc_20 : shpC[20]? = some (.inr (true, some 96)) := rfl
theorem sc_21 : shpC[21]? = some (.inr (false, some 400)) := rfl
theorem sc_22 : shpC[22]? = some (.inr (false, some 400)) := rfl
theorem sc_23 : shpC[23]? = some (.inr (false, some 400)) := rfl
theorem sc_24 : shpC[24]? = some (.inr (false, some 400)) := rfl
theorem sc_25 : shpC[25]? = some (.inr (false, some 400)) := rfl
theorem sc_26 : shpC[26]? = some (.inr (false, some 400)) := rfl
theorem sc_27 : shpC[27]? = some (.inr (false, some 600)) := rfl
theorem sc_28 : shpC[28]? = some (.inr (false, some 600)) := rfl
theorem sc_29 : shpC[29]? = some (.inr (false, some 600)) := rfl
theorem sc_30 : shpC[30]? = some (.inr (false, some 600)) := rfl
theorem sc_31 : shpC[31]? = some (.inr (false, some 600)) := rfl
theorem sc_32 : shpC[32]? = some (.inr (false, some 600)) := rfl
theorem sc_33 : shpC[33]? = some (.inr (false, some 97)) := rfl
theorem sc_34 : shpC[34]? = some (.inr (false, some 96)) := rfl
theorem sc_35 : shpC[35]? = some (.inr (true, some 200)) := rfl
theorem sc_36 : shpC[36]? = some (.inr (true, some 200)) := rfl
theorem sc_37 : shpC[37]? = some (.inr (false, some 200)) := rfl
theorem sc_38 : shpC[38]? = some (.inr (false, some 200)) := rfl
theorem sc_39 : shpC[39]? = some (.inr (false, some 200)) := rfl
theorem sc_40 : shpC[40]? = some (.inr (false, some 400)) := rfl
theorem sc_41 : shpC[41]? = some (.inr (false, some 400)) := rfl
theorem sc_42 : shpC[42]? = some (.inr (false, some 400)) := rfl
theorem sc_43 : shpC[43]? = some (.inr (true, some 96)) := rfl
theorem sc_44 : shpC[44]? = some (.inr (true, some 200)) := rfl
theorem sc_45 : shpC[45]? = some (.inr (false, some 96)) := rfl
theorem sc_46 : shpC[46]? = some (.inr (false, some 96)) := rfl
theorem sc_47 : shpC[47]? = some (.inr (false, some 96)) := rfl
theorem sc_48 : shpC[48]? = some (.inr (false, some 96)) := rfl
theorem sc_49 : shpC[49]? = some (.inr (false, some 200)) := rfl
theorem sc_50 : shpC[50]? = some (.inr (false, some 32)) := rfl
theorem sc_51 : shpC[51]? = some (.inr (false, some 32)) := rfl
theorem sc_52 : shpC[52]? = some (.inr (false, some 32)) := rfl
theorem sc_53 : shpC[53]? = some (.inr (false, some 600)) := rfl
def shpM : List Shp := [.inl (12, [none, none, some 1, none, some 2, some 3, some 4, some 5, some 6, some 7, none, none, some 8, none, some 9, some 10, some 11, some 12, some 13, some 14, none, some 15, some 16, some 17, some 18, some 19, none, none, none, none, none, none, none, none, none, none, some 20, some 21, some 22, some 23, some 24, some 25, some 26, some 27, some 28, some 29, some 30, none, some 31, none]), .inr (false, some 24), .inr (false, some 96), .inr (false, some 96), .inr (false, some 96), .inr (false, some 96), .inr (false, some 96), .inr (true, some 96), .inr (false, some 100000), .inr (false, some 400), .inr (false, some 400), .inr (false, some 400), .inr (false, some 400), .inr (false, some 400), .inr (false, some 400), .inr (false, some 600), .inr (false, some 600), .inr (false, some 600), .inr (false, some 600), .inr (false, some 600), .inr (true, some 24), .inr (false, some 200), .inr (false, some 200), .inr (true, some 200), .inr (false, some 200), .inr (true, some 96), .inr (false, some 96), .inr (false, some 96), .inr (true, some 9216), .inr (false, some 100000), .inr (false, some 600), .inr (false, some 32)]
theorem sm_0 : shpM[0]? = some (.inl (12, [none, none, some 1, none, some 2, some 3, some 4, some 5, some 6, some 7, none, none, some 8, none, some 9, some 10, some 11, some 12, some 13, some 14, none, some 15, some 16, some 17, some 18, some 19, none, none, none, none, none, none, none, none, none, none, some 20, some 21, some 22, some 23, some 24, some 25, some 26, some 27, some 28, some 29, some 30, none, some 31, none])) := rfl
theorem sm_1 : shpM[1]? = some (.inr (false, some 24)) := rfl
theorem sm_2 : shpM[2]? = some (.inr (false, some 96)) := rfl
theorem sm_3 : shpM[3]? = some (.inr (false, some 96)) := rfl
theorem sm_4 : shpM[4]? = some (.inr (false, some 96)) := rfl
theorem sm_5 : shpM[5]? = some (.inr (false, some 96)) := rfl
theorem sm_6 : shpM[6]? = some (.inr (false, some 96)) := rfl
theorem sm_7 : shpM[7]? = some (.inr (true, some 96)) := rfl
theorem sm_8 : shpM[8]? = some (.inr (false, some 100000)) := rfl
theorem sm_9 : shpM[9]? = some (.inr (false, some 400)) := rfl
theorem sm_10 : shpM[10]? = some (.inr (false, some 400)) := rfl
theorem sm_11 : shpM[11]? = some (.inr (false, some 400)) := rfl
theorem sm_12 : shpM[12]? = some (.inr (false, some 400)) := rfl
theorem sm_13 : shpM[13]? = some (.inr (false, some 400)) := rfl
theorem sm_14 : shpM[14]? = some (.inr (false, some 400)) := rfl
theorem sm_15 : shpM[15]? = some (.inr (false, some 600)) := rfl
theorem sm_16 : shpM[16]? = some (.inr (false, some 600)) := rfl
theorem sm_17 : shpM[17]? = some (.inr (false, some 600)) := rfl
theorem sm_18 : shpM[18]? = some (.inr (false, some 600)) := rfl
theorem sm_19 : shpM[19]? = some (.inr (false, some 600)) := rfl
theorem sm_20 : shpM[20]? = some (.inr (true, some 24)) := rfl
theorem sm_21 : shpM[21]? = some (.inr (false, some 200)) := rfl
theorem sm_22 : shpM[22]? = some (.inr (false, some 200)) := rfl
theorem sm_23 : shpM[23]? = some (.inr (true, some 200)) := rfl
theorem sm_24 : shpM[24]? = some (.inr (false, some 200)) := rfl
theorem sm_25 : shpM[25]? = some (.inr (true, some 96)) := rfl
theorem sm_26 : shpM[26]? = some (.inr (false, some 96)) := rfl
theorem sm_27 : shpM[27]? = some (.inr (false, some 96)) := rfl
theorem sm_28 : shpM[28]? = some (.inr (true, some 9216)) := rfl
theorem sm_29 : shpM[29]? = some (.inr (false, some 100000)) := rfl
theorem sm_30 : shpM[30]? = some (.inr (false, some 600)) := rfl
theorem sm_31 : shpM[31]? = some (.inr (false, some 32)) := rfl
abbrev b_Ly_takeLinkAway : ByteArray := prog_1_method_21_code
def y_Ly_takeLinkAway : MethodName := ⟨R_Ly, "takeLinkAway", "()V"⟩
abbrev rm_Ly_takeLinkAway : Room := { frames := 0, cells := 0, slots := 0, locals := 0 }
abbrev b_Ly_fold : ByteArray := prog_1_method_10_code
def y_Ly_fold : MethodName := ⟨R_Ly, "fold", "(ZZ)V"⟩
abbrev rm_Ly_fold : Room := { frames := 1, cells := 0, slots := 0, locals := 20 }
abbrev b_Se_forget : ByteArray := prog_10_method_9_code
def y_Se_forget : MethodName := ⟨R_Se, "forget", "()V"⟩
abbrev rm_Se_forget : Room := { frames := 0, cells := 0, slots := 0, locals := 0 }
abbrev b_Ly_clear : ByteArray := prog_1_method_11_code
def y_Ly_clear : MethodName := ⟨R_Ly, "clear", "()V"⟩
abbrev rm_Ly_clear : Room := { frames := 1, cells := 0, slots := 0, locals := 20 }
abbrev b_Sy_asksForName : ByteArray := prog_11_method_7_code
def y_Sy_asksForName : MethodName := ⟨R_Sy, "asksForName", "(I)Z"⟩
abbrev rm_Sy_asksForName : Room := { frames := 0, cells := 0, slots := 0, locals := 0 }
abbrev b_Sy_givesName : ByteArray := prog_11_method_6_code
def y_Sy_givesName : MethodName := ⟨R_Sy, "givesName", "(I)Z"⟩
abbrev rm_Sy_givesName : Room := { frames := 0, cells := 0, slots := 0, locals := 0 }
abbrev b_Ar_note : ByteArray := prog_2_method_6_code
def y_Ar_note : MethodName := ⟨R_Ar, "note", "(I)V"⟩
abbrev rm_Ar_note : Room := { frames := 1, cells := 0, slots := 0, locals := 21 }
abbrev b_Ar_admit : ByteArray := prog_2_method_5_code
def y_Ar_admit : MethodName := ⟨R_Ar, lw_nmA, "(I)V"⟩
abbrev rm_Ar_admit : Room := { frames := 2, cells := 0, slots := 0, locals := 42 }
abbrev b_Ar_begin : ByteArray := prog_2_method_3_code
def y_Ar_begin : MethodName := ⟨R_Ar, "begin", "(I)V"⟩
abbrev rm_Ar_begin : Room := { frames := 3, cells := 0, slots := 0, locals := 64 }
abbrev b_Ar_isNeeded : ByteArray := prog_2_method_8_code
def y_Ar_isNeeded : MethodName := ⟨R_Ar, "isNeeded", "(I)Z"⟩
abbrev rm_Ar_isNeeded : Room := { frames := 1, cells := 0, slots := 0, locals := 21 }
abbrev b_Ar_firstNeeded : ByteArray := prog_2_method_7_code
def y_Ar_firstNeeded : MethodName := ⟨R_Ar, "firstNeeded", "(I)I"⟩
abbrev rm_Ar_firstNeeded : Room := { frames := 2, cells := 0, slots := 0, locals := 43 }
abbrev b_Ar_goThroughArchives : ByteArray := prog_2_method_4_code
def y_Ar_goThroughArchives : MethodName := ⟨R_Ar, "goThroughArchives", "()Z"⟩
abbrev rm_Ar_goThroughArchives : Room := { frames := 3, cells := 0, slots := 0, locals := 68 }
abbrev b_Ar_bringIn : ByteArray := prog_2_method_2_code
def y_Ar_bringIn : MethodName := ⟨R_Ar, "bringIn", "(IZ)V"⟩
abbrev rm_Ar_bringIn : Room := { frames := 4, cells := 0, slots := 0, locals := 92 }
abbrev b_Na_isCommon : ByteArray := prog_7_method_7_code
def y_Na_isCommon : MethodName := ⟨R_Na, "isCommon", "(I)Z"⟩
abbrev rm_Na_isCommon : Room := { frames := 0, cells := 0, slots := 0, locals := 0 }
abbrev b_Na_definer : ByteArray := prog_7_method_8_code
def y_Na_definer : MethodName := ⟨R_Na, "definer", "(I)I"⟩
abbrev rm_Na_definer : Room := { frames := 1, cells := 0, slots := 0, locals := 21 }
abbrev b_Na_isDefined : ByteArray := prog_7_method_6_code
def y_Na_isDefined : MethodName := ⟨R_Na, "isDefined", "(I)Z"⟩
abbrev rm_Na_isDefined : Room := { frames := 2, cells := 0, slots := 0, locals := 42 }
abbrev b_Na_sectionOf : ByteArray := prog_7_method_9_code
def y_Na_sectionOf : MethodName := ⟨R_Na, "sectionOf", "(I)I"⟩
abbrev rm_Na_sectionOf : Room := { frames := 2, cells := 0, slots := 0, locals := 42 }
abbrev b_Na_setMeaning : ByteArray := prog_7_method_12_code
def y_Na_setMeaning : MethodName := ⟨R_Na, "setMeaning", "(IIII)V"⟩
abbrev rm_Na_setMeaning : Room := { frames := 0, cells := 0, slots := 0, locals := 0 }
abbrev b_Na_copyMeaning : ByteArray := prog_7_method_11_code
def y_Na_copyMeaning : MethodName := ⟨R_Na, "copyMeaning", "(II)V"⟩
abbrev rm_Na_copyMeaning : Room := { frames := 1, cells := 0, slots := 0, locals := 24 }
abbrev b_Na_giveMeaning : ByteArray := prog_7_method_10_code
def y_Na_giveMeaning : MethodName := ⟨R_Na, "giveMeaning", "(I)V"⟩
abbrev rm_Na_giveMeaning : Room := { frames := 2, cells := 0, slots := 0, locals := 46 }
abbrev b_Na_takeGlobal : ByteArray := prog_7_method_4_code
def y_Na_takeGlobal : MethodName := ⟨R_Na, "takeGlobal", "(II)V"⟩
abbrev rm_Na_takeGlobal : Room := { frames := 0, cells := 0, slots := 0, locals := 0 }
abbrev b_Na_takeWeak : ByteArray := prog_7_method_5_code
def y_Na_takeWeak : MethodName := ⟨R_Na, "takeWeak", "(II)V"⟩
abbrev rm_Na_takeWeak : Room := { frames := 0, cells := 0, slots := 0, locals := 0 }
abbrev b_Na_take : ByteArray := prog_7_method_3_code
def y_Na_take : MethodName := ⟨R_Na, "take", "(I)V"⟩
abbrev rm_Na_take : Room := { frames := 1, cells := 0, slots := 0, locals := 32 }
abbrev b_fill37 : ByteArray := prog_32_method_103_code
def y_fill37 : MethodName := ⟨"java/util/Arrays", "fill", "([II)V"⟩
abbrev rm_fill37 : Room := { frames := 0, cells := 0, slots := 0, locals := 0 }
abbrev b_fill38 : ByteArray := prog_32_method_103_code
def y_fill38 : MethodName := ⟨"java/util/Arrays", "fill", "([II)V"⟩
abbrev rm_fill38 : Room := { frames := 0, cells := 0, slots := 0, locals := 0 }
abbrev b_fill39 : ByteArray := prog_32_method_103_code
def y_fill39 : MethodName := ⟨"java/util/Arrays", "fill", "([II)V"⟩
abbrev rm_fill39 : Room := { frames := 0, cells := 0, slots := 0, locals := 0 }
abbrev b_Na_settle : ByteArray := prog_7_method_2_code
def y_Na_settle : MethodName := ⟨R_Na, "settle", "()V"⟩
abbrev rm_Na_settle : Room := { frames := 3, cells := 0, slots := 0, locals := 68 }
abbrev b_Rc_firstMissing : ByteArray := prog_8_method_6_code
def y_Rc_firstMissing : MethodName := ⟨R_Rc, "firstMissing", "()I"⟩
abbrev rm_Rc_firstMissing : Room := { frames := 0, cells := 0, slots := 0, locals := 0 }
abbrev b_Rc_find : ByteArray := prog_8_method_4_code
def y_Rc_find : MethodName := ⟨R_Rc, "find", "(I)V"⟩
abbrev rm_Rc_find : Room := { frames := 0, cells := 0, slots := 0, locals := 0 }
abbrev b_Rc_forget : ByteArray := prog_8_method_3_code
def y_Rc_forget : MethodName := ⟨R_Rc, "forget", "()V"⟩
abbrev rm_Rc_forget : Room := { frames := 0, cells := 0, slots := 0, locals := 0 }
abbrev b_Re_countOf : ByteArray := prog_9_method_4_code
def y_Re_countOf : MethodName := ⟨R_Re, "countOf", "(I)I"⟩
abbrev rm_Re_countOf : Room := { frames := 0, cells := 0, slots := 0, locals := 0 }
abbrev b_Re_pick : ByteArray := prog_9_method_5_code
def y_Re_pick : MethodName := ⟨R_Re, "pick", "(II)I"⟩
abbrev rm_Re_pick : Room := { frames := 0, cells := 0, slots := 0, locals := 0 }
abbrev b_Rc_spreadFrom : ByteArray := prog_8_method_5_code
def y_Rc_spreadFrom : MethodName := ⟨R_Rc, "spreadFrom", "(I)V"⟩
abbrev rm_Rc_spreadFrom : Room := { frames := 1, cells := 0, slots := 0, locals := 22 }
abbrev b_Rc_spread : ByteArray := prog_8_method_2_code
def y_Rc_spread : MethodName := ⟨R_Rc, "spread", "(I)V"⟩
abbrev rm_Rc_spread : Room := { frames := 2, cells := 0, slots := 0, locals := 45 }
abbrev b_fill33 : ByteArray := prog_32_method_103_code
def y_fill33 : MethodName := ⟨"java/util/Arrays", "fill", "([II)V"⟩
abbrev rm_fill33 : Room := { frames := 0, cells := 0, slots := 0, locals := 0 }
abbrev b_Re_putInOrder : ByteArray := prog_9_method_3_code
def y_Re_putInOrder : MethodName := ⟨R_Re, "putInOrder", "(I)V"⟩
abbrev rm_Re_putInOrder : Room := { frames := 1, cells := 0, slots := 0, locals := 23 }
abbrev b_Ly_fails : ByteArray := prog_1_method_26_code
def y_Ly_fails : MethodName := ⟨R_Ly, "fails", "(III)Z"⟩
abbrev rm_Ly_fails : Room := { frames := 0, cells := 0, slots := 0, locals := 0 }
abbrev b_Ly_linksNames : ByteArray := prog_1_method_24_code
def y_Ly_linksNames : MethodName := ⟨R_Ly, "linksNames", "()Z"⟩
abbrev rm_Ly_linksNames : Room := { frames := 5, cells := 0, slots := 0, locals := 116 }
abbrev b_Fo_isSame : ByteArray := prog_3_method_10_code
def y_Fo_isSame : MethodName := ⟨R_Fo, "isSame", "(II)Z"⟩
abbrev rm_Fo_isSame : Room := { frames := 0, cells := 0, slots := 0, locals := 0 }
abbrev b_Fo_hasSameRelocations : ByteArray := prog_3_method_9_code
def y_Fo_hasSameRelocations : MethodName := ⟨R_Fo, "hasSameRelocations", "(II)Z"⟩
abbrev rm_Fo_hasSameRelocations : Room := { frames := 1, cells := 0, slots := 0, locals := 24 }
abbrev b_Se_read : ByteArray := prog_10_method_7_code
def y_Se_read : MethodName := ⟨R_Se, "read", "(II)I"⟩
abbrev rm_Se_read : Room := { frames := 0, cells := 0, slots := 0, locals := 0 }
abbrev b_Fo_hasSameWords : ByteArray := prog_3_method_8_code
def y_Fo_hasSameWords : MethodName := ⟨R_Fo, "hasSameWords", "(II)Z"⟩
abbrev rm_Fo_hasSameWords : Room := { frames := 1, cells := 0, slots := 0, locals := 22 }
abbrev b_Fo_looksSame : ByteArray := prog_3_method_7_code
def y_Fo_looksSame : MethodName := ⟨R_Fo, "looksSame", "(II)Z"⟩
abbrev rm_Fo_looksSame : Room := { frames := 2, cells := 0, slots := 0, locals := 47 }
abbrev b_Fo_mayFold : ByteArray := prog_3_method_5_code
def y_Fo_mayFold : MethodName := ⟨R_Fo, "mayFold", "(I)Z"⟩
abbrev rm_Fo_mayFold : Room := { frames := 0, cells := 0, slots := 0, locals := 0 }
abbrev b_Fo_firstOfSameLook : ByteArray := prog_3_method_6_code
def y_Fo_firstOfSameLook : MethodName := ⟨R_Fo, "firstOfSameLook", "(I)I"⟩
abbrev rm_Fo_firstOfSameLook : Room := { frames := 3, cells := 0, slots := 0, locals := 69 }
abbrev b_Fo_leaderOfMeant : ByteArray := prog_3_method_14_code
def y_Fo_leaderOfMeant : MethodName := ⟨R_Fo, "leaderOfMeant", "(I)I"⟩
abbrev rm_Fo_leaderOfMeant : Room := { frames := 0, cells := 0, slots := 0, locals := 0 }
abbrev b_Fo_hasSameTargets : ByteArray := prog_3_method_13_code
def y_Fo_hasSameTargets : MethodName := ⟨R_Fo, "hasSameTargets", "(II)Z"⟩
abbrev rm_Fo_hasSameTargets : Room := { frames := 1, cells := 0, slots := 0, locals := 22 }
abbrev b_Fo_firstOfSameTargets : ByteArray := prog_3_method_12_code
def y_Fo_firstOfSameTargets : MethodName := ⟨R_Fo, "firstOfSameTargets", "(I)I"⟩
abbrev rm_Fo_firstOfSameTargets : Room := { frames := 2, cells := 0, slots := 0, locals := 47 }
abbrev b_Fo_split : ByteArray := prog_3_method_11_code
def y_Fo_split : MethodName := ⟨R_Fo, "split", "()Z"⟩
abbrev rm_Fo_split : Room := { frames := 3, cells := 0, slots := 0, locals := 69 }
abbrev b_Fo_settle : ByteArray := prog_3_method_2_code
def y_Fo_settle : MethodName := ⟨R_Fo, "settle", "(Z)V"⟩
abbrev rm_Fo_settle : Room := { frames := 4, cells := 0, slots := 0, locals := 91 }
abbrev b_Is_placeOf : ByteArray := prog_4_method_9_code
def y_Is_placeOf : MethodName := ⟨R_Is, "placeOf", "(I)I"⟩
abbrev rm_Is_placeOf : Room := { frames := 0, cells := 0, slots := 0, locals := 0 }
abbrev b_Is_isNear : ByteArray := prog_4_method_11_code
def y_Is_isNear : MethodName := ⟨R_Is, "isNear", "(II)Z"⟩
abbrev rm_Is_isNear : Room := { frames := 1, cells := 0, slots := 0, locals := 21 }
abbrev b_Fo_isFolded : ByteArray := prog_3_method_3_code
def y_Fo_isFolded : MethodName := ⟨R_Fo, "isFolded", "(I)Z"⟩
abbrev rm_Fo_isFolded : Room := { frames := 0, cells := 0, slots := 0, locals := 0 }
abbrev b_La_isStanding : ByteArray := prog_5_method_6_code
def y_La_isStanding : MethodName := ⟨R_La, "isStanding", "(I)Z"⟩
abbrev rm_La_isStanding : Room := { frames := 1, cells := 0, slots := 0, locals := 21 }
abbrev b_Is_mayGo : ByteArray := prog_4_method_4_code
def y_Is_mayGo : MethodName := ⟨R_Is, "mayGo", "(I)Z"⟩
abbrev rm_Is_mayGo : Room := { frames := 2, cells := 0, slots := 0, locals := 42 }
abbrev b_La_startOf : ByteArray := prog_5_method_9_code
def y_La_startOf : MethodName := ⟨R_La, "startOf", "(II)I"⟩
abbrev rm_La_startOf : Room := { frames := 0, cells := 0, slots := 0, locals := 0 }
abbrev b_La_addressOf : ByteArray := prog_5_method_8_code
def y_La_addressOf : MethodName := ⟨R_La, "addressOf", "(I)I"⟩
abbrev rm_La_addressOf : Room := { frames := 1, cells := 0, slots := 0, locals := 22 }
abbrev b_Is_targetOf : ByteArray := prog_4_method_8_code
def y_Is_targetOf : MethodName := ⟨R_Is, "targetOf", "(I)I"⟩
abbrev rm_Is_targetOf : Room := { frames := 2, cells := 0, slots := 0, locals := 43 }
abbrev b_Is_firstStranded : ByteArray := prog_4_method_3_code
def y_Is_firstStranded : MethodName := ⟨R_Is, "firstStranded", "()I"⟩
abbrev rm_Is_firstStranded : Room := { frames := 3, cells := 0, slots := 0, locals := 64 }
abbrev b_Is_find : ByteArray := prog_4_method_6_code
def y_Is_find : MethodName := ⟨R_Is, "find", "(I)I"⟩
abbrev rm_Is_find : Room := { frames := 1, cells := 0, slots := 0, locals := 22 }
abbrev b_Is_raise : ByteArray := prog_4_method_7_code
def y_Is_raise : MethodName := ⟨R_Is, "raise", "(I)V"⟩
abbrev rm_Is_raise : Room := { frames := 1, cells := 0, slots := 0, locals := 22 }
abbrev b_Is_send : ByteArray := prog_4_method_5_code
def y_Is_send : MethodName := ⟨R_Is, "send", "(I)Z"⟩
abbrev rm_Is_send : Room := { frames := 2, cells := 0, slots := 0, locals := 45 }
abbrev b_La_put : ByteArray := prog_5_method_5_code
def y_La_put : MethodName := ⟨R_La, "put", "(II)I"⟩
abbrev rm_La_put : Room := { frames := 0, cells := 0, slots := 0, locals := 0 }
abbrev b_La_laySections : ByteArray := prog_5_method_4_code
def y_La_laySections : MethodName := ⟨R_La, "laySections", "(I)V"⟩
abbrev rm_La_laySections : Room := { frames := 1, cells := 0, slots := 0, locals := 23 }
abbrev b_La_lay : ByteArray := prog_5_method_3_code
def y_La_lay : MethodName := ⟨R_La, "lay", "(I)V"⟩
abbrev rm_La_lay : Room := { frames := 2, cells := 0, slots := 0, locals := 45 }
abbrev b_fill53 : ByteArray := prog_32_method_103_code
def y_fill53 : MethodName := ⟨"java/util/Arrays", "fill", "([II)V"⟩
abbrev rm_fill53 : Room := { frames := 0, cells := 0, slots := 0, locals := 0 }
abbrev b_Is_settle : ByteArray := prog_4_method_2_code
def y_Is_settle : MethodName := ⟨R_Is, "settle", "()Z"⟩
abbrev rm_Is_settle : Room := { frames := 4, cells := 0, slots := 0, locals := 86 }
abbrev b_fill48 : ByteArray := prog_32_method_103_code
def y_fill48 : MethodName := ⟨"java/util/Arrays", "fill", "([II)V"⟩
abbrev rm_fill48 : Room := { frames := 0, cells := 0, slots := 0, locals := 0 }
abbrev b_fill49 : ByteArray := prog_32_method_103_code
def y_fill49 : MethodName := ⟨"java/util/Arrays", "fill", "([II)V"⟩
abbrev rm_fill49 : Room := { frames := 0, cells := 0, slots := 0, locals := 0 }
abbrev b_La_begin : ByteArray := prog_5_method_2_code
def y_La_begin : MethodName := ⟨R_La, "begin", "(I)V"⟩
abbrev rm_La_begin : Room := { frames := 1, cells := 0, slots := 0, locals := 23 }
abbrev b_Is_goalOf : ByteArray := prog_4_method_10_code
def y_Is_goalOf : MethodName := ⟨R_Is, "goalOf", "(II)I"⟩
abbrev rm_Is_goalOf : Room := { frames := 0, cells := 0, slots := 0, locals := 0 }
abbrev b_Me_isMended : ByteArray := prog_6_method_4_code
def y_Me_isMended : MethodName := ⟨R_Me, "isMended", "(II)Z"⟩
abbrev rm_Me_isMended : Room := { frames := 2, cells := 0, slots := 0, locals := 42 }
abbrev b_Me_firstFar : ByteArray := prog_6_method_2_code
def y_Me_firstFar : MethodName := ⟨R_Me, "firstFar", "()I"⟩
abbrev rm_Me_firstFar : Room := { frames := 3, cells := 0, slots := 0, locals := 64 }
abbrev b_Me_firstMisplacedJump : ByteArray := prog_6_method_3_code
def y_Me_firstMisplacedJump : MethodName := ⟨R_Me, "firstMisplacedJump", "()I"⟩
abbrev rm_Me_firstMisplacedJump : Room := { frames := 3, cells := 0, slots := 0, locals := 64 }
abbrev b_Ly_linksPlaces : ByteArray := prog_1_method_25_code
def y_Ly_linksPlaces : MethodName := ⟨R_Ly, "linksPlaces", "(I)Z"⟩
abbrev rm_Ly_linksPlaces : Room := { frames := 5, cells := 0, slots := 0, locals := 113 }
abbrev b_Ly_isName : ByteArray := prog_1_method_27_code
def y_Ly_isName : MethodName := ⟨R_Ly, "isName", "(I)Z"⟩
abbrev rm_Ly_isName : Room := { frames := 0, cells := 0, slots := 0, locals := 0 }
abbrev b_Ly_isSize : ByteArray := prog_1_method_28_code
def y_Ly_isSize : MethodName := ⟨R_Ly, "isSize", "(II)Z"⟩
abbrev rm_Ly_isSize : Room := { frames := 0, cells := 0, slots := 0, locals := 0 }
abbrev b_bitCount : ByteArray := prog_22_method_49_code
def y_bitCount : MethodName := ⟨"java/lang/Integer", "bitCount", "(I)I"⟩
abbrev rm_bitCount : Room := { frames := 0, cells := 0, slots := 0, locals := 0 }
abbrev b_Ly_isAlignment : ByteArray := prog_1_method_29_code
def y_Ly_isAlignment : MethodName := ⟨R_Ly, "isAlignment", "(I)Z"⟩
abbrev rm_Ly_isAlignment : Room := { frames := 1, cells := 0, slots := 0, locals := 20 }
abbrev b_Ly_isOther : ByteArray := prog_1_method_30_code
def y_Ly_isOther : MethodName := ⟨R_Ly, "isOther", "(III)Z"⟩
abbrev rm_Ly_isOther : Room := { frames := 1, cells := 0, slots := 0, locals := 21 }
abbrev b_Ly_formOfOther : ByteArray := prog_1_method_31_code
def y_Ly_formOfOther : MethodName := ⟨R_Ly, "formOfOther", "(I)I"⟩
abbrev rm_Ly_formOfOther : Room := { frames := 0, cells := 0, slots := 0, locals := 0 }
abbrev b_Un_has : ByteArray := prog_12_method_2_code
def y_Un_has : MethodName := ⟨R_Un, "has", "(I)Z"⟩
abbrev rm_Un_has : Room := { frames := 0, cells := 0, slots := 0, locals := 0 }
abbrev b_Un_add : ByteArray := prog_12_method_3_code
def y_Un_add : MethodName := ⟨R_Un, "add", "(I)I"⟩
abbrev rm_Un_add : Room := { frames := 0, cells := 0, slots := 0, locals := 0 }
abbrev b_Un_countIn : ByteArray := prog_12_method_4_code
def y_Un_countIn : MethodName := ⟨R_Un, "countIn", "()I"⟩
abbrev rm_Un_countIn : Room := { frames := 0, cells := 0, slots := 0, locals := 0 }
abbrev b_Se_has : ByteArray := prog_10_method_2_code
def y_Se_has : MethodName := ⟨R_Se, "has", "(I)Z"⟩
abbrev rm_Se_has : Room := { frames := 0, cells := 0, slots := 0, locals := 0 }
abbrev b_Se_hasWord : ByteArray := prog_10_method_3_code
def y_Se_hasWord : MethodName := ⟨R_Se, "hasWord", "(II)Z"⟩
abbrev rm_Se_hasWord : Room := { frames := 1, cells := 0, slots := 0, locals := 21 }
abbrev b_Se_roomier : ByteArray := prog_10_method_6_code
def y_Se_roomier : MethodName := ⟨R_Se, "roomier", "(I)I"⟩
abbrev rm_Se_roomier : Room := { frames := 1, cells := 0, slots := 0, locals := 32 }
abbrev b_Se_write : ByteArray := prog_10_method_8_code
def y_Se_write : MethodName := ⟨R_Se, "write", "(III)V"⟩
abbrev rm_Se_write : Room := { frames := 0, cells := 0, slots := 0, locals := 0 }
abbrev b_Sy_has : ByteArray := prog_11_method_2_code
def y_Sy_has : MethodName := ⟨R_Sy, "has", "(I)Z"⟩
abbrev rm_Sy_has : Room := { frames := 0, cells := 0, slots := 0, locals := 0 }
abbrev b_Sy_clashes : ByteArray := prog_11_method_3_code
def y_Sy_clashes : MethodName := ⟨R_Sy, "clashes", "(III)Z"⟩
abbrev rm_Sy_clashes : Room := { frames := 0, cells := 0, slots := 0, locals := 0 }
abbrev b_Sy_add : ByteArray := prog_11_method_4_code
def y_Sy_add : MethodName := ⟨R_Sy, "add", "(III)I"⟩
abbrev rm_Sy_add : Room := { frames := 0, cells := 0, slots := 0, locals := 0 }
abbrev b_Sy_define : ByteArray := prog_11_method_5_code
def y_Sy_define : MethodName := ⟨R_Sy, "define", "(IIII)V"⟩
abbrev rm_Sy_define : Room := { frames := 0, cells := 0, slots := 0, locals := 0 }
abbrev b_Re_add : ByteArray := prog_9_method_2_code
def y_Re_add : MethodName := ⟨R_Re, "add", "(IIIII)I"⟩
abbrev rm_Re_add : Room := { frames := 0, cells := 0, slots := 0, locals := 0 }
abbrev b_Fo_countFolded : ByteArray := prog_3_method_4_code
def y_Fo_countFolded : MethodName := ⟨R_Fo, "countFolded", "()I"⟩
abbrev rm_Fo_countFolded : Room := { frames := 1, cells := 0, slots := 0, locals := 21 }
abbrev b_La_isLaid : ByteArray := prog_5_method_7_code
def y_La_isLaid : MethodName := ⟨R_La, "isLaid", "(I)Z"⟩
abbrev rm_La_isLaid : Room := { frames := 0, cells := 0, slots := 0, locals := 0 }
abbrev b_La_sectionAt : ByteArray := prog_5_method_10_code
def y_La_sectionAt : MethodName := ⟨R_La, "sectionAt", "(I)I"⟩
abbrev rm_La_sectionAt : Room := { frames := 2, cells := 0, slots := 0, locals := 42 }
abbrev b_Is_covers : ByteArray := prog_4_method_12_code
def y_Is_covers : MethodName := ⟨R_Is, "covers", "(I)Z"⟩
abbrev rm_Is_covers : Room := { frames := 0, cells := 0, slots := 0, locals := 0 }
abbrev b_Is_read : ByteArray := prog_4_method_13_code
def y_Is_read : MethodName := ⟨R_Is, "read", "(I)I"⟩
abbrev rm_Is_read : Room := { frames := 1, cells := 0, slots := 0, locals := 22 }
abbrev b_Me_withLowerHalf : ByteArray := prog_6_method_9_code
def y_Me_withLowerHalf : MethodName := ⟨R_Me, "withLowerHalf", "(II)I"⟩
abbrev rm_Me_withLowerHalf : Room := { frames := 0, cells := 0, slots := 0, locals := 0 }
abbrev b_Me_wordsBetween : ByteArray := prog_6_method_8_code
def y_Me_wordsBetween : MethodName := ⟨R_Me, "wordsBetween", "(II)I"⟩
abbrev rm_Me_wordsBetween : Room := { frames := 0, cells := 0, slots := 0, locals := 0 }
abbrev b_Me_mend : ByteArray := prog_6_method_7_code
def y_Me_mend : MethodName := ⟨R_Me, "mend", "(II)I"⟩
abbrev rm_Me_mend : Room := { frames := 3, cells := 0, slots := 0, locals := 64 }
abbrev b_Me_mended : ByteArray := prog_6_method_6_code
def y_Me_mended : MethodName := ⟨R_Me, "mended", "(II)I"⟩
abbrev rm_Me_mended : Room := { frames := 4, cells := 0, slots := 0, locals := 88 }
abbrev b_Me_read : ByteArray := prog_6_method_5_code
def y_Me_read : MethodName := ⟨R_Me, "read", "(I)I"⟩
abbrev rm_Me_read : Room := { frames := 5, cells := 0, slots := 0, locals := 113 }
abbrev b_Mo_thrown : ByteArray := prog_14_method_2_code
def y_Mo_thrown : MethodName := ⟨R_Mo, "thrown", "()I"⟩
abbrev rm_Mo_thrown : Room := { frames := 0, cells := 0, slots := 0, locals := 0 }
abbrev b_Mo_refuse : ByteArray := prog_14_method_3_code
def y_Mo_refuse : MethodName := ⟨R_Mo, "refuse", "(ZZ)Z"⟩
abbrev rm_Mo_refuse : Room := { frames := 0, cells := 0, slots := 0, locals := 0 }
abbrev b_Mo_within : ByteArray := prog_14_method_4_code
def y_Mo_within : MethodName := ⟨R_Mo, "within", "(III)Z"⟩
abbrev rm_Mo_within : Room := { frames := 0, cells := 0, slots := 0, locals := 0 }
abbrev b_Mo_told : ByteArray := prog_14_method_5_code
def y_Mo_told : MethodName := ⟨R_Mo, "told", "()V"⟩
abbrev rm_Mo_told : Room := { frames := 0, cells := 0, slots := 0, locals := 0 }
abbrev b_Mo_unit : ByteArray := prog_14_method_6_code
def y_Mo_unit : MethodName := ⟨R_Mo, "unit", "(I)I"⟩
abbrev rm_Mo_unit : Room := { frames := 1, cells := 0, slots := 0, locals := 22 }
abbrev b_Mo_isAlignment : ByteArray := prog_14_method_7_code
def y_Mo_isAlignment : MethodName := ⟨R_Mo, "isAlignment", "(I)Z"⟩
abbrev rm_Mo_isAlignment : Room := { frames := 1, cells := 0, slots := 0, locals := 22 }
abbrev b_Mo_section : ByteArray := prog_14_method_8_code
def y_Mo_section : MethodName := ⟨R_Mo, "section", "(IIII)I"⟩
abbrev rm_Mo_section : Room := { frames := 2, cells := 0, slots := 0, locals := 42 }
abbrev b_Mo_isPlace : ByteArray := prog_14_method_9_code
def y_Mo_isPlace : MethodName := ⟨R_Mo, "isPlace", "(II)Z"⟩
abbrev rm_Mo_isPlace : Room := { frames := 1, cells := 0, slots := 0, locals := 22 }
abbrev b_Mo_word : ByteArray := prog_14_method_10_code
def y_Mo_word : MethodName := ⟨R_Mo, "word", "(III)V"⟩
abbrev rm_Mo_word : Room := { frames := 2, cells := 0, slots := 0, locals := 44 }
abbrev b_Mo_hasName : ByteArray := prog_14_method_11_code
def y_Mo_hasName : MethodName := ⟨R_Mo, "hasName", "(III)Z"⟩
abbrev rm_Mo_hasName : Room := { frames := 0, cells := 0, slots := 0, locals := 0 }
abbrev b_Mo_newSymbol : ByteArray := prog_14_method_12_code
def y_Mo_newSymbol : MethodName := ⟨R_Mo, "newSymbol", "(IIIIII)I"⟩
abbrev rm_Mo_newSymbol : Room := { frames := 1, cells := 0, slots := 0, locals := 20 }
abbrev b_Mo_symbol : ByteArray := prog_14_method_13_code
def y_Mo_symbol : MethodName := ⟨R_Mo, "symbol", "(IIII)I"⟩
abbrev rm_Mo_symbol : Room := { frames := 2, cells := 0, slots := 0, locals := 46 }
abbrev b_Mo_other : ByteArray := prog_14_method_14_code
def y_Mo_other : MethodName := ⟨R_Mo, "other", "(IIIII)I"⟩
abbrev rm_Mo_other : Room := { frames := 2, cells := 0, slots := 0, locals := 46 }
abbrev b_Mo_relocation : ByteArray := prog_14_method_15_code
def y_Mo_relocation : MethodName := ⟨R_Mo, "relocation", "(IIIII)I"⟩
abbrev rm_Mo_relocation : Room := { frames := 2, cells := 0, slots := 0, locals := 44 }
abbrev b_Mo_entry : ByteArray := prog_14_method_16_code
def y_Mo_entry : MethodName := ⟨R_Mo, "entry", "(I)V"⟩
abbrev rm_Mo_entry : Room := { frames := 1, cells := 0, slots := 0, locals := 22 }
abbrev b_Mo_keep : ByteArray := prog_14_method_17_code
def y_Mo_keep : MethodName := ⟨R_Mo, "keep", "(IZ)V"⟩
abbrev rm_Mo_keep : Room := { frames := 1, cells := 0, slots := 0, locals := 22 }
abbrev b_Mo_fold : ByteArray := prog_14_method_18_code
def y_Mo_fold : MethodName := ⟨R_Mo, "fold", "(ZZ)V"⟩
abbrev rm_Mo_fold : Room := { frames := 1, cells := 0, slots := 0, locals := 20 }
abbrev b_Mo_clear : ByteArray := prog_14_method_19_code
def y_Mo_clear : MethodName := ⟨R_Mo, "clear", "()V"⟩
abbrev rm_Mo_clear : Room := { frames := 1, cells := 0, slots := 0, locals := 20 }
abbrev b_Mo_fail : ByteArray := prog_14_method_20_code
def y_Mo_fail : MethodName := ⟨R_Mo, "fail", "(III)Z"⟩
abbrev rm_Mo_fail : Room := { frames := 0, cells := 0, slots := 0, locals := 0 }
abbrev b_Mo_isGiven : ByteArray := prog_14_method_21_code
def y_Mo_isGiven : MethodName := ⟨R_Mo, "isGiven", "(I)Z"⟩
abbrev rm_Mo_isGiven : Room := { frames := 0, cells := 0, slots := 0, locals := 0 }
abbrev b_Mo_isNeeded : ByteArray := prog_14_method_22_code
def y_Mo_isNeeded : MethodName := ⟨R_Mo, "isNeeded", "(I)Z"⟩
abbrev rm_Mo_isNeeded : Room := { frames := 1, cells := 0, slots := 0, locals := 23 }
abbrev b_Mo_helps : ByteArray := prog_14_method_23_code
def y_Mo_helps : MethodName := ⟨R_Mo, "helps", "(I)Z"⟩
abbrev rm_Mo_helps : Room := { frames := 2, cells := 0, slots := 0, locals := 46 }
abbrev b_Mo_bring : ByteArray := prog_14_method_24_code
def y_Mo_bring : MethodName := ⟨R_Mo, "bring", "(I)Z"⟩
abbrev rm_Mo_bring : Room := { frames := 3, cells := 0, slots := 0, locals := 70 }
abbrev b_Mo_findIn : ByteArray := prog_14_method_25_code
def y_Mo_findIn : MethodName := ⟨R_Mo, "findIn", "()V"⟩
abbrev rm_Mo_findIn : Room := { frames := 4, cells := 0, slots := 0, locals := 95 }
abbrev b_Mo_define : ByteArray := prog_14_method_26_code
def y_Mo_define : MethodName := ⟨R_Mo, "define", "()Z"⟩
abbrev rm_Mo_define : Room := { frames := 1, cells := 0, slots := 0, locals := 23 }
abbrev b_Mo_itself : ByteArray := prog_14_method_27_code
def y_Mo_itself : MethodName := ⟨R_Mo, "itself", "(I)I"⟩
abbrev rm_Mo_itself : Room := { frames := 0, cells := 0, slots := 0, locals := 0 }
abbrev b_Mo_isCommon : ByteArray := prog_14_method_28_code
def y_Mo_isCommon : MethodName := ⟨R_Mo, "isCommon", "(I)Z"⟩
abbrev rm_Mo_isCommon : Room := { frames := 0, cells := 0, slots := 0, locals := 0 }
abbrev b_Mo_sortOf : ByteArray := prog_14_method_29_code
def y_Mo_sortOf : MethodName := ⟨R_Mo, "sortOf", "(I)I"⟩
abbrev rm_Mo_sortOf : Room := { frames := 1, cells := 0, slots := 0, locals := 21 }
abbrev b_Mo_numberOf : ByteArray := prog_14_method_30_code
def y_Mo_numberOf : MethodName := ⟨R_Mo, "numberOf", "(I)I"⟩
abbrev rm_Mo_numberOf : Room := { frames := 1, cells := 0, slots := 0, locals := 21 }
abbrev b_Mo_sectionOf : ByteArray := prog_14_method_31_code
def y_Mo_sectionOf : MethodName := ⟨R_Mo, "sectionOf", "(I)I"⟩
abbrev rm_Mo_sectionOf : Room := { frames := 2, cells := 0, slots := 0, locals := 43 }
abbrev b_Mo_reachBy : ByteArray := prog_14_method_33_code
def y_Mo_reachBy : MethodName := ⟨R_Mo, "reachBy", "(I)Z"⟩
abbrev rm_Mo_reachBy : Room := { frames := 3, cells := 0, slots := 0, locals := 64 }
abbrev b_Mo_reach : ByteArray := prog_14_method_32_code
def y_Mo_reach : MethodName := ⟨R_Mo, "reach", "()Z"⟩
abbrev rm_Mo_reach : Room := { frames := 4, cells := 0, slots := 0, locals := 88 }
abbrev b_Mo_mayFold : ByteArray := prog_14_method_34_code
def y_Mo_mayFold : MethodName := ⟨R_Mo, "mayFold", "(I)Z"⟩
abbrev rm_Mo_mayFold : Room := { frames := 0, cells := 0, slots := 0, locals := 0 }
abbrev b_Mo_haveLikeWords : ByteArray := prog_14_method_35_code
def y_Mo_haveLikeWords : MethodName := ⟨R_Mo, "haveLikeWords", "(II)Z"⟩
abbrev rm_Mo_haveLikeWords : Room := { frames := 0, cells := 0, slots := 0, locals := 0 }
abbrev b_Mo_nextOf : ByteArray := prog_14_method_36_code
def y_Mo_nextOf : MethodName := ⟨R_Mo, "nextOf", "(II)I"⟩
abbrev rm_Mo_nextOf : Room := { frames := 0, cells := 0, slots := 0, locals := 0 }
abbrev b_Mo_meanLike : ByteArray := prog_14_method_37_code
def y_Mo_meanLike : MethodName := ⟨R_Mo, "meanLike", "(II)Z"⟩
abbrev rm_Mo_meanLike : Room := { frames := 3, cells := 0, slots := 0, locals := 64 }
abbrev b_Mo_haveLikeRelocations : ByteArray := prog_14_method_38_code
def y_Mo_haveLikeRelocations : MethodName := ⟨R_Mo, "haveLikeRelocations", "(II)Z"⟩
abbrev rm_Mo_haveLikeRelocations : Room := { frames := 4, cells := 0, slots := 0, locals := 88 }
abbrev b_Mo_findLike : ByteArray := prog_14_method_39_code
def y_Mo_findLike : MethodName := ⟨R_Mo, "findLike", "()V"⟩
abbrev rm_Mo_findLike : Room := { frames := 5, cells := 0, slots := 0, locals := 112 }
abbrev b_Mo_stays : ByteArray := prog_14_method_40_code
def y_Mo_stays : MethodName := ⟨R_Mo, "stays", "(I)Z"⟩
abbrev rm_Mo_stays : Room := { frames := 0, cells := 0, slots := 0, locals := 0 }
abbrev b_Mo_up : ByteArray := prog_14_method_41_code
def y_Mo_up : MethodName := ⟨R_Mo, "up", "(II)I"⟩
abbrev rm_Mo_up : Room := { frames := 0, cells := 0, slots := 0, locals := 0 }
abbrev b_Mo_layKind : ByteArray := prog_14_method_42_code
def y_Mo_layKind : MethodName := ⟨R_Mo, "layKind", "(II)I"⟩
abbrev rm_Mo_layKind : Room := { frames := 1, cells := 0, slots := 0, locals := 21 }
abbrev b_Mo_lay : ByteArray := prog_14_method_43_code
def y_Mo_lay : MethodName := ⟨R_Mo, "lay", "()V"⟩
abbrev rm_Mo_lay : Room := { frames := 2, cells := 0, slots := 0, locals := 45 }
abbrev b_Mo_meaning : ByteArray := prog_14_method_44_code
def y_Mo_meaning : MethodName := ⟨R_Mo, "meaning", "(I)I"⟩
abbrev rm_Mo_meaning : Room := { frames := 3, cells := 0, slots := 0, locals := 64 }
abbrev b_Mo_placeAt : ByteArray := prog_14_method_45_code
def y_Mo_placeAt : MethodName := ⟨R_Mo, "placeAt", "(I)I"⟩
abbrev rm_Mo_placeAt : Room := { frames := 0, cells := 0, slots := 0, locals := 0 }
abbrev b_Mo_isNear : ByteArray := prog_14_method_46_code
def y_Mo_isNear : MethodName := ⟨R_Mo, "isNear", "(J)Z"⟩
abbrev rm_Mo_isNear : Room := { frames := 0, cells := 0, slots := 0, locals := 0 }
abbrev b_Mo_isNearTarget : ByteArray := prog_14_method_47_code
def y_Mo_isNearTarget : MethodName := ⟨R_Mo, "isNearTarget", "(I)Z"⟩
abbrev rm_Mo_isNearTarget : Room := { frames := 4, cells := 0, slots := 0, locals := 86 }
abbrev b_Mo_islandAt : ByteArray := prog_14_method_48_code
def y_Mo_islandAt : MethodName := ⟨R_Mo, "islandAt", "(I)I"⟩
abbrev rm_Mo_islandAt : Room := { frames := 0, cells := 0, slots := 0, locals := 0 }
abbrev b_Mo_sameTarget : ByteArray := prog_14_method_49_code
def y_Mo_sameTarget : MethodName := ⟨R_Mo, "sameTarget", "(II)Z"⟩
abbrev rm_Mo_sameTarget : Room := { frames := 3, cells := 0, slots := 0, locals := 64 }
abbrev b_Mo_needy : ByteArray := prog_14_method_50_code
def y_Mo_needy : MethodName := ⟨R_Mo, "needy", "()I"⟩
abbrev rm_Mo_needy : Room := { frames := 5, cells := 0, slots := 0, locals := 107 }
abbrev b_Mo_findIslands : ByteArray := prog_14_method_51_code
def y_Mo_findIslands : MethodName := ⟨R_Mo, "findIslands", "()Z"⟩
abbrev rm_Mo_findIslands : Room := { frames := 6, cells := 0, slots := 0, locals := 130 }
abbrev b_Mo_checkFar : ByteArray := prog_14_method_52_code
def y_Mo_checkFar : MethodName := ⟨R_Mo, "checkFar", "()Z"⟩
abbrev rm_Mo_checkFar : Room := { frames := 5, cells := 0, slots := 0, locals := 107 }
abbrev b_Mo_mendOne : ByteArray := prog_14_method_54_code
def y_Mo_mendOne : MethodName := ⟨R_Mo, "mendOne", "(I)Z"⟩
abbrev rm_Mo_mendOne : Room := { frames := 4, cells := 0, slots := 0, locals := 86 }
abbrev b_Mo_mend : ByteArray := prog_14_method_53_code
def y_Mo_mend : MethodName := ⟨R_Mo, "mend", "()Z"⟩
abbrev rm_Mo_mend : Room := { frames := 5, cells := 0, slots := 0, locals := 111 }
abbrev b_Mo_link : ByteArray := prog_14_method_55_code
def y_Mo_link : MethodName := ⟨R_Mo, "link", "(I)I"⟩
abbrev rm_Mo_link : Room := { frames := 7, cells := 0, slots := 0, locals := 152 }
abbrev b_Mo_fault : ByteArray := prog_14_method_56_code
def y_Mo_fault : MethodName := ⟨R_Mo, "fault", "(I)I"⟩
abbrev rm_Mo_fault : Room := { frames := 1, cells := 0, slots := 0, locals := 22 }
abbrev b_Mo_isIn : ByteArray := prog_14_method_57_code
def y_Mo_isIn : MethodName := ⟨R_Mo, "isIn", "(I)Z"⟩
abbrev rm_Mo_isIn : Room := { frames := 1, cells := 0, slots := 0, locals := 22 }
abbrev b_Mo_address : ByteArray := prog_14_method_58_code
def y_Mo_address : MethodName := ⟨R_Mo, "address", "(I)I"⟩
abbrev rm_Mo_address : Room := { frames := 1, cells := 0, slots := 0, locals := 22 }
abbrev b_Mo_like : ByteArray := prog_14_method_59_code
def y_Mo_like : MethodName := ⟨R_Mo, "like", "(I)I"⟩
abbrev rm_Mo_like : Room := { frames := 1, cells := 0, slots := 0, locals := 22 }
abbrev b_Mo_means : ByteArray := prog_14_method_60_code
def y_Mo_means : MethodName := ⟨R_Mo, "means", "(II)I"⟩
abbrev rm_Mo_means : Room := { frames := 4, cells := 0, slots := 0, locals := 86 }
abbrev b_Mo_common : ByteArray := prog_14_method_61_code
def y_Mo_common : MethodName := ⟨R_Mo, "common", "(I)I"⟩
abbrev rm_Mo_common : Room := { frames := 1, cells := 0, slots := 0, locals := 22 }
abbrev b_Mo_at : ByteArray := prog_14_method_62_code
def y_Mo_at : MethodName := ⟨R_Mo, "at", "(I)I"⟩
abbrev rm_Mo_at : Room := { frames := 4, cells := 0, slots := 0, locals := 86 }
abbrev b_Mo_about : ByteArray := prog_14_method_63_code
def y_Mo_about : MethodName := ⟨R_Mo, "about", "(I)I"⟩
abbrev rm_Mo_about : Room := { frames := 1, cells := 0, slots := 0, locals := 22 }
