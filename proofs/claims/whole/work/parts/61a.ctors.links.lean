abbrev b_Un_init : ByteArray := prog_12_method_1_code
def y_Un_init : MethodName := ⟨R_Un, "<init>", "()V"⟩
abbrev rm_Un_init : Room := { frames := 1, cells := 2, slots := 48, locals := 20 }
abbrev b_Se_init : ByteArray := prog_10_method_1_code
def y_Se_init : MethodName := ⟨R_Se, "<init>", "()V"⟩
abbrev rm_Se_init : Room := { frames := 1, cells := 7, slots := 1600, locals := 20 }
abbrev b_Sy_init : ByteArray := prog_11_method_1_code
def y_Sy_init : MethodName := ⟨R_Sy, "<init>", "()V"⟩
abbrev rm_Sy_init : Room := { frames := 1, cells := 6, slots := 2400, locals := 20 }
abbrev b_Re_init : ByteArray := prog_9_method_1_code
def y_Re_init : MethodName := ⟨R_Re, "<init>", "()V"⟩
abbrev rm_Re_init : Room := { frames := 1, cells := 8, slots := 3793, locals := 20 }
abbrev b_Ar_init : ByteArray := prog_2_method_1_code
def y_Ar_init : MethodName := ⟨R_Ar, "<init>", "(LLinkYard$Units;LLinkYard$Symbols;)V"⟩
abbrev rm_Ar_init : Room := { frames := 1, cells := 2, slots := 400, locals := 20 }
abbrev b_Na_init : ByteArray := prog_7_method_1_code
def y_Na_init : MethodName := ⟨R_Na, "<init>", "(LLinkYard$Units;LLinkYard$Symbols;)V"⟩
abbrev rm_Na_init : Room := { frames := 1, cells := 6, slots := 1800, locals := 20 }
abbrev b_Rc_init : ByteArray := prog_8_method_1_code
def y_Rc_init : MethodName := ⟨R_Rc, "<init>", "(LLinkYard$Units;LLinkYard$Sections;LLinkYard$Relocations;LLinkYard$Names;)V"⟩
abbrev rm_Rc_init : Room := { frames := 1, cells := 3, slots := 392, locals := 20 }
abbrev b_Fo_init : ByteArray := prog_3_method_1_code
def y_Fo_init : MethodName := ⟨R_Fo, "<init>", "(LLinkYard$Sections;LLinkYard$Relocations;LLinkYard$Names;LLinkYard$Reach;)V"⟩
abbrev rm_Fo_init : Room := { frames := 1, cells := 2, slots := 192, locals := 20 }
abbrev b_La_init : ByteArray := prog_5_method_1_code
def y_La_init : MethodName := ⟨R_La, "<init>", "(LLinkYard$Sections;LLinkYard$Names;LLinkYard$Reach;LLinkYard$Folding;)V"⟩
abbrev rm_La_init : Room := { frames := 1, cells := 2, slots := 296, locals := 20 }
abbrev b_Is_init : ByteArray := prog_4_method_1_code
def y_Is_init : MethodName := ⟨R_Is, "<init>", "(LLinkYard$Sections;LLinkYard$Relocations;LLinkYard$Names;LLinkYard$Folding;LLinkYard$Layout;)V"⟩
abbrev rm_Is_init : Room := { frames := 1, cells := 4, slots := 696, locals := 20 }
abbrev b_Me_init : ByteArray := prog_6_method_1_code
def y_Me_init : MethodName := ⟨R_Me, "<init>", "(LLinkYard$Sections;LLinkYard$Relocations;LLinkYard$Layout;LLinkYard$Islands;)V"⟩
abbrev rm_Me_init : Room := { frames := 1, cells := 0, slots := 0, locals := 20 }
theorem mo_Un_3 : Cond.methodLink R_Un 3 Lib.objectInit ∈ ALLW := (mw 128 (by decide +kernel))
theorem ff_Un_1 : FTf R_Un 1 1 (.array .int) := ⟨R_Un, F_Un, N_Un, rfl, rfl, rfl, by decide +kernel⟩
theorem ff_Un_2 : FTf R_Un 1 2 (.array .boolean) := ⟨R_Un, F_Un, N_Un, rfl, rfl, rfl, by decide +kernel⟩
theorem mo_Se_3 : Cond.methodLink R_Se 3 Lib.objectInit ∈ ALLW := (mw 153 (by decide +kernel))
theorem ks_1024 : (Int16.ofInt 1024).toInt32 = 1024 := by decide
theorem ft_Se_3 : FT 2 3 (.array .int) := ⟨R_Se, F_Se, N_Se, rfl, rfl, by decide +kernel⟩
theorem ff_Se_4 : FTf R_Se 2 4 (.array .int) := ⟨R_Se, F_Se, N_Se, rfl, rfl, rfl, by decide +kernel⟩
theorem ff_Se_5 : FTf R_Se 2 5 (.array .int) := ⟨R_Se, F_Se, N_Se, rfl, rfl, rfl, by decide +kernel⟩
theorem ff_Se_6 : FTf R_Se 2 6 (.array .int) := ⟨R_Se, F_Se, N_Se, rfl, rfl, rfl, by decide +kernel⟩
theorem ff_Se_7 : FTf R_Se 2 7 (.array .int) := ⟨R_Se, F_Se, N_Se, rfl, rfl, rfl, by decide +kernel⟩
theorem ff_Se_8 : FTf R_Se 2 8 (.array .int) := ⟨R_Se, F_Se, N_Se, rfl, rfl, rfl, by decide +kernel⟩
theorem ff_Se_9 : FTf R_Se 2 9 (.array .boolean) := ⟨R_Se, F_Se, N_Se, rfl, rfl, rfl, by decide +kernel⟩
theorem mo_Sy_3 : Cond.methodLink R_Sy 3 Lib.objectInit ∈ ALLW := (mw 209 (by decide +kernel))
theorem ff_Sy_1 : FTf R_Sy 3 1 (.array .int) := ⟨R_Sy, F_Sy, N_Sy, rfl, rfl, rfl, by decide +kernel⟩
theorem ff_Sy_2 : FTf R_Sy 3 2 (.array .int) := ⟨R_Sy, F_Sy, N_Sy, rfl, rfl, rfl, by decide +kernel⟩
theorem ff_Sy_3 : FTf R_Sy 3 3 (.array .int) := ⟨R_Sy, F_Sy, N_Sy, rfl, rfl, rfl, by decide +kernel⟩
theorem ff_Sy_4 : FTf R_Sy 3 4 (.array .int) := ⟨R_Sy, F_Sy, N_Sy, rfl, rfl, rfl, by decide +kernel⟩
theorem ff_Sy_5 : FTf R_Sy 3 5 (.array .int) := ⟨R_Sy, F_Sy, N_Sy, rfl, rfl, rfl, by decide +kernel⟩
theorem ff_Sy_6 : FTf R_Sy 3 6 (.array .int) := ⟨R_Sy, F_Sy, N_Sy, rfl, rfl, rfl, by decide +kernel⟩
theorem mo_Re_3 : Cond.methodLink R_Re 3 Lib.objectInit ∈ ALLW := (mw 251 (by decide +kernel))
theorem ff_Re_1 : FTf R_Re 4 1 (.array .int) := ⟨R_Re, F_Re, N_Re, rfl, rfl, rfl, by decide +kernel⟩
theorem ff_Re_2 : FTf R_Re 4 2 (.array .int) := ⟨R_Re, F_Re, N_Re, rfl, rfl, rfl, by decide +kernel⟩
theorem ff_Re_3 : FTf R_Re 4 3 (.array .int) := ⟨R_Re, F_Re, N_Re, rfl, rfl, rfl, by decide +kernel⟩
theorem ff_Re_4 : FTf R_Re 4 4 (.array .int) := ⟨R_Re, F_Re, N_Re, rfl, rfl, rfl, by decide +kernel⟩
theorem ff_Re_5 : FTf R_Re 4 5 (.array .int) := ⟨R_Re, F_Re, N_Re, rfl, rfl, rfl, by decide +kernel⟩
theorem ff_Re_6 : FTf R_Re 4 6 (.array .int) := ⟨R_Re, F_Re, N_Re, rfl, rfl, rfl, by decide +kernel⟩
theorem kb_97 : (Int8.ofInt 97).toInt32 = 97 := by decide
theorem ff_Re_7 : FTf R_Re 4 7 (.array .int) := ⟨R_Re, F_Re, N_Re, rfl, rfl, rfl, by decide +kernel⟩
theorem ff_Re_8 : FTf R_Re 4 8 (.array .int) := ⟨R_Re, F_Re, N_Re, rfl, rfl, rfl, by decide +kernel⟩
theorem mo_Ar_3 : Cond.methodLink R_Ar 3 Lib.objectInit ∈ ALLW := (mw 307 (by decide +kernel))
theorem ff_Ar_2 : FTf R_Ar 5 2 (.array .boolean) := ⟨R_Ar, F_Ar, N_Ar, rfl, rfl, rfl, by decide +kernel⟩
theorem ff_Ar_3 : FTf R_Ar 5 3 (.array .boolean) := ⟨R_Ar, F_Ar, N_Ar, rfl, rfl, rfl, by decide +kernel⟩
theorem ff_Ar_0 : FTf R_Ar 5 0 (.object "LinkYard$Units") := ⟨R_Ar, F_Ar, N_Ar, rfl, rfl, rfl, by decide +kernel⟩
theorem ff_Ar_1 : FTf R_Ar 5 1 (.object "LinkYard$Symbols") := ⟨R_Ar, F_Ar, N_Ar, rfl, rfl, rfl, by decide +kernel⟩
theorem mo_Na_3 : Cond.methodLink R_Na 3 Lib.objectInit ∈ ALLW := (mw 326 (by decide +kernel))
theorem ff_Na_2 : FTf R_Na 6 2 (.array .int) := ⟨R_Na, F_Na, N_Na, rfl, rfl, rfl, by decide +kernel⟩
theorem ff_Na_3 : FTf R_Na 6 3 (.array .int) := ⟨R_Na, F_Na, N_Na, rfl, rfl, rfl, by decide +kernel⟩
theorem ff_Na_4 : FTf R_Na 6 4 (.array .int) := ⟨R_Na, F_Na, N_Na, rfl, rfl, rfl, by decide +kernel⟩
theorem ff_Na_6 : FTf R_Na 6 6 (.array .int) := ⟨R_Na, F_Na, N_Na, rfl, rfl, rfl, by decide +kernel⟩
theorem ff_Na_7 : FTf R_Na 6 7 (.array .int) := ⟨R_Na, F_Na, N_Na, rfl, rfl, rfl, by decide +kernel⟩
theorem ff_Na_8 : FTf R_Na 6 8 (.array .int) := ⟨R_Na, F_Na, N_Na, rfl, rfl, rfl, by decide +kernel⟩
theorem ff_Na_0 : FTf R_Na 6 0 (.object "LinkYard$Units") := ⟨R_Na, F_Na, N_Na, rfl, rfl, rfl, by decide +kernel⟩
theorem ff_Na_1 : FTf R_Na 6 1 (.object "LinkYard$Symbols") := ⟨R_Na, F_Na, N_Na, rfl, rfl, rfl, by decide +kernel⟩
theorem mo_Rc_3 : Cond.methodLink R_Rc 3 Lib.objectInit ∈ ALLW := (mw 374 (by decide +kernel))
theorem ff_Rc_4 : FTf R_Rc 7 4 (.array .boolean) := ⟨R_Rc, F_Rc, N_Rc, rfl, rfl, rfl, by decide +kernel⟩
theorem ff_Rc_5 : FTf R_Rc 7 5 (.array .boolean) := ⟨R_Rc, F_Rc, N_Rc, rfl, rfl, rfl, by decide +kernel⟩
theorem ff_Rc_7 : FTf R_Rc 7 7 (.array .int) := ⟨R_Rc, F_Rc, N_Rc, rfl, rfl, rfl, by decide +kernel⟩
theorem ff_Rc_0 : FTf R_Rc 7 0 (.object "LinkYard$Units") := ⟨R_Rc, F_Rc, N_Rc, rfl, rfl, rfl, by decide +kernel⟩
theorem ff_Rc_1 : FTf R_Rc 7 1 (.object "LinkYard$Sections") := ⟨R_Rc, F_Rc, N_Rc, rfl, rfl, rfl, by decide +kernel⟩
theorem ff_Rc_2 : FTf R_Rc 7 2 (.object "LinkYard$Relocations") := ⟨R_Rc, F_Rc, N_Rc, rfl, rfl, rfl, by decide +kernel⟩
theorem ff_Rc_3 : FTf R_Rc 7 3 (.object "LinkYard$Names") := ⟨R_Rc, F_Rc, N_Rc, rfl, rfl, rfl, by decide +kernel⟩
theorem mo_Fo_3 : Cond.methodLink R_Fo 3 Lib.objectInit ∈ ALLW := (mw 410 (by decide +kernel))
theorem ff_Fo_4 : FTf R_Fo 8 4 (.array .int) := ⟨R_Fo, F_Fo, N_Fo, rfl, rfl, rfl, by decide +kernel⟩
theorem ff_Fo_5 : FTf R_Fo 8 5 (.array .int) := ⟨R_Fo, F_Fo, N_Fo, rfl, rfl, rfl, by decide +kernel⟩
theorem ff_Fo_0 : FTf R_Fo 8 0 (.object "LinkYard$Sections") := ⟨R_Fo, F_Fo, N_Fo, rfl, rfl, rfl, by decide +kernel⟩
theorem ff_Fo_1 : FTf R_Fo 8 1 (.object "LinkYard$Relocations") := ⟨R_Fo, F_Fo, N_Fo, rfl, rfl, rfl, by decide +kernel⟩
theorem ff_Fo_2 : FTf R_Fo 8 2 (.object "LinkYard$Names") := ⟨R_Fo, F_Fo, N_Fo, rfl, rfl, rfl, by decide +kernel⟩
theorem ff_Fo_3 : FTf R_Fo 8 3 (.object "LinkYard$Reach") := ⟨R_Fo, F_Fo, N_Fo, rfl, rfl, rfl, by decide +kernel⟩
theorem mo_La_3 : Cond.methodLink R_La 3 Lib.objectInit ∈ ALLW := (mw 437 (by decide +kernel))
theorem ff_La_8 : FTf R_La 9 8 (.array .int) := ⟨R_La, F_La, N_La, rfl, rfl, rfl, by decide +kernel⟩
theorem ff_La_9 : FTf R_La 9 9 (.array .int) := ⟨R_La, F_La, N_La, rfl, rfl, rfl, by decide +kernel⟩
theorem ff_La_0 : FTf R_La 9 0 (.object "LinkYard$Sections") := ⟨R_La, F_La, N_La, rfl, rfl, rfl, by decide +kernel⟩
theorem ff_La_1 : FTf R_La 9 1 (.object "LinkYard$Names") := ⟨R_La, F_La, N_La, rfl, rfl, rfl, by decide +kernel⟩
theorem ff_La_2 : FTf R_La 9 2 (.object "LinkYard$Reach") := ⟨R_La, F_La, N_La, rfl, rfl, rfl, by decide +kernel⟩
theorem ff_La_3 : FTf R_La 9 3 (.object "LinkYard$Folding") := ⟨R_La, F_La, N_La, rfl, rfl, rfl, by decide +kernel⟩
theorem mo_Is_3 : Cond.methodLink R_Is 3 Lib.objectInit ∈ ALLW := (mw 483 (by decide +kernel))
theorem ff_Is_7 : FTf R_Is 10 7 (.array .int) := ⟨R_Is, F_Is, N_Is, rfl, rfl, rfl, by decide +kernel⟩
theorem ff_Is_8 : FTf R_Is 10 8 (.array .int) := ⟨R_Is, F_Is, N_Is, rfl, rfl, rfl, by decide +kernel⟩
theorem ff_Is_9 : FTf R_Is 10 9 (.array .int) := ⟨R_Is, F_Is, N_Is, rfl, rfl, rfl, by decide +kernel⟩
theorem ff_Is_10 : FTf R_Is 10 10 (.array .int) := ⟨R_Is, F_Is, N_Is, rfl, rfl, rfl, by decide +kernel⟩
theorem ff_Is_0 : FTf R_Is 10 0 (.object "LinkYard$Sections") := ⟨R_Is, F_Is, N_Is, rfl, rfl, rfl, by decide +kernel⟩
theorem ff_Is_1 : FTf R_Is 10 1 (.object "LinkYard$Relocations") := ⟨R_Is, F_Is, N_Is, rfl, rfl, rfl, by decide +kernel⟩
theorem ff_Is_2 : FTf R_Is 10 2 (.object "LinkYard$Names") := ⟨R_Is, F_Is, N_Is, rfl, rfl, rfl, by decide +kernel⟩
theorem ff_Is_3 : FTf R_Is 10 3 (.object "LinkYard$Folding") := ⟨R_Is, F_Is, N_Is, rfl, rfl, rfl, by decide +kernel⟩
theorem ff_Is_4 : FTf R_Is 10 4 (.object "LinkYard$Layout") := ⟨R_Is, F_Is, N_Is, rfl, rfl, rfl, by decide +kernel⟩
theorem mo_Me_3 : Cond.methodLink R_Me 3 Lib.objectInit ∈ ALLW := (mw 525 (by decide +kernel))
theorem ff_Me_0 : FTf R_Me 11 0 (.object "LinkYard$Sections") := ⟨R_Me, F_Me, N_Me, rfl, rfl, rfl, by decide +kernel⟩
theorem ff_Me_1 : FTf R_Me 11 1 (.object "LinkYard$Relocations") := ⟨R_Me, F_Me, N_Me, rfl, rfl, rfl, by decide +kernel⟩
theorem ff_Me_2 : FTf R_Me 11 2 (.object "LinkYard$Layout") := ⟨R_Me, F_Me, N_Me, rfl, rfl, rfl, by decide +kernel⟩
theorem ff_Me_3 : FTf R_Me 11 3 (.object "LinkYard$Islands") := ⟨R_Me, F_Me, N_Me, rfl, rfl, rfl, by decide +kernel⟩
theorem d_Un_init_0 : decode b_Un_init 0 = .ok (.aload_n 0, 1) := by decide +kernel
theorem d_Un_init_1 : decode b_Un_init 1 = .ok (.invokespecial 3, 3) := by decide +kernel
theorem d_Un_init_4 : decode b_Un_init 4 = .ok (.aload_n 0, 1) := by decide +kernel
theorem d_Un_init_5 : decode b_Un_init 5 = .ok (.bipush 24, 2) := by decide +kernel
theorem d_Un_init_7 : decode b_Un_init 7 = .ok (.newarray .int, 2) := by decide +kernel
theorem d_Un_init_9 : decode b_Un_init 9 = .ok (.putfield 9, 3) := by decide +kernel
theorem d_Un_init_12 : decode b_Un_init 12 = .ok (.aload_n 0, 1) := by decide +kernel
theorem d_Un_init_13 : decode b_Un_init 13 = .ok (.bipush 24, 2) := by decide +kernel
theorem d_Un_init_15 : decode b_Un_init 15 = .ok (.newarray .boolean, 2) := by decide +kernel
theorem d_Un_init_17 : decode b_Un_init 17 = .ok (.putfield 15, 3) := by decide +kernel
theorem d_Un_init_20 : decode b_Un_init 20 = .ok (.return_, 1) := by decide +kernel
theorem d_Se_init_0 : decode b_Se_init 0 = .ok (.aload_n 0, 1) := by decide +kernel
theorem d_Se_init_1 : decode b_Se_init 1 = .ok (.invokespecial 3, 3) := by decide +kernel
theorem d_Se_init_4 : decode b_Se_init 4 = .ok (.aload_n 0, 1) := by decide +kernel
theorem d_Se_init_5 : decode b_Se_init 5 = .ok (.sipush 1024, 3) := by decide +kernel
theorem d_Se_init_8 : decode b_Se_init 8 = .ok (.newarray .int, 2) := by decide +kernel
theorem d_Se_init_10 : decode b_Se_init 10 = .ok (.putfield 9, 3) := by decide +kernel
theorem d_Se_init_13 : decode b_Se_init 13 = .ok (.aload_n 0, 1) := by decide +kernel
theorem d_Se_init_14 : decode b_Se_init 14 = .ok (.bipush 96, 2) := by decide +kernel
theorem d_Se_init_16 : decode b_Se_init 16 = .ok (.newarray .int, 2) := by decide +kernel
theorem d_Se_init_18 : decode b_Se_init 18 = .ok (.putfield 15, 3) := by decide +kernel
theorem d_Se_init_21 : decode b_Se_init 21 = .ok (.aload_n 0, 1) := by decide +kernel
theorem d_Se_init_22 : decode b_Se_init 22 = .ok (.bipush 96, 2) := by decide +kernel
theorem d_Se_init_24 : decode b_Se_init 24 = .ok (.newarray .int, 2) := by decide +kernel
theorem d_Se_init_26 : decode b_Se_init 26 = .ok (.putfield 18, 3) := by decide +kernel
theorem d_Se_init_29 : decode b_Se_init 29 = .ok (.aload_n 0, 1) := by decide +kernel
theorem d_Se_init_30 : decode b_Se_init 30 = .ok (.bipush 96, 2) := by decide +kernel
theorem d_Se_init_32 : decode b_Se_init 32 = .ok (.newarray .int, 2) := by decide +kernel
theorem d_Se_init_34 : decode b_Se_init 34 = .ok (.putfield 21, 3) := by decide +kernel
theorem d_Se_init_37 : decode b_Se_init 37 = .ok (.aload_n 0, 1) := by decide +kernel
theorem d_Se_init_38 : decode b_Se_init 38 = .ok (.bipush 96, 2) := by decide +kernel
theorem d_Se_init_40 : decode b_Se_init 40 = .ok (.newarray .int, 2) := by decide +kernel
theorem d_Se_init_42 : decode b_Se_init 42 = .ok (.putfield 24, 3) := by decide +kernel
theorem d_Se_init_45 : decode b_Se_init 45 = .ok (.aload_n 0, 1) := by decide +kernel
theorem d_Se_init_46 : decode b_Se_init 46 = .ok (.bipush 96, 2) := by decide +kernel
theorem d_Se_init_48 : decode b_Se_init 48 = .ok (.newarray .int, 2) := by decide +kernel
theorem d_Se_init_50 : decode b_Se_init 50 = .ok (.putfield 27, 3) := by decide +kernel
theorem d_Se_init_53 : decode b_Se_init 53 = .ok (.aload_n 0, 1) := by decide +kernel
theorem d_Se_init_54 : decode b_Se_init 54 = .ok (.bipush 96, 2) := by decide +kernel
theorem d_Se_init_56 : decode b_Se_init 56 = .ok (.newarray .boolean, 2) := by decide +kernel
theorem d_Se_init_58 : decode b_Se_init 58 = .ok (.putfield 30, 3) := by decide +kernel
theorem d_Se_init_61 : decode b_Se_init 61 = .ok (.return_, 1) := by decide +kernel
theorem d_Sy_init_0 : decode b_Sy_init 0 = .ok (.aload_n 0, 1) := by decide +kernel
theorem d_Sy_init_1 : decode b_Sy_init 1 = .ok (.invokespecial 3, 3) := by decide +kernel
theorem d_Sy_init_4 : decode b_Sy_init 4 = .ok (.aload_n 0, 1) := by decide +kernel
theorem d_Sy_init_5 : decode b_Sy_init 5 = .ok (.sipush 400, 3) := by decide +kernel
theorem d_Sy_init_8 : decode b_Sy_init 8 = .ok (.newarray .int, 2) := by decide +kernel
theorem d_Sy_init_10 : decode b_Sy_init 10 = .ok (.putfield 9, 3) := by decide +kernel
theorem d_Sy_init_13 : decode b_Sy_init 13 = .ok (.aload_n 0, 1) := by decide +kernel
theorem d_Sy_init_14 : decode b_Sy_init 14 = .ok (.sipush 400, 3) := by decide +kernel
theorem d_Sy_init_17 : decode b_Sy_init 17 = .ok (.newarray .int, 2) := by decide +kernel
theorem d_Sy_init_19 : decode b_Sy_init 19 = .ok (.putfield 15, 3) := by decide +kernel
theorem d_Sy_init_22 : decode b_Sy_init 22 = .ok (.aload_n 0, 1) := by decide +kernel
theorem d_Sy_init_23 : decode b_Sy_init 23 = .ok (.sipush 400, 3) := by decide +kernel
theorem d_Sy_init_26 : decode b_Sy_init 26 = .ok (.newarray .int, 2) := by decide +kernel
theorem d_Sy_init_28 : decode b_Sy_init 28 = .ok (.putfield 18, 3) := by decide +kernel
theorem d_Sy_init_31 : decode b_Sy_init 31 = .ok (.aload_n 0, 1) := by decide +kernel
theorem d_Sy_init_32 : decode b_Sy_init 32 = .ok (.sipush 400, 3) := by decide +kernel
theorem d_Sy_init_35 : decode b_Sy_init 35 = .ok (.newarray .int, 2) := by decide +kernel
theorem d_Sy_init_37 : decode b_Sy_init 37 = .ok (.putfield 21, 3) := by decide +kernel
theorem d_Sy_init_40 : decode b_Sy_init 40 = .ok (.aload_n 0, 1) := by decide +kernel
theorem d_Sy_init_41 : decode b_Sy_init 41 = .ok (.sipush 400, 3) := by decide +kernel
theorem d_Sy_init_44 : decode b_Sy_init 44 = .ok (.newarray .int, 2) := by decide +kernel
theorem d_Sy_init_46 : decode b_Sy_init 46 = .ok (.putfield 24, 3) := by decide +kernel
theorem d_Sy_init_49 : decode b_Sy_init 49 = .ok (.aload_n 0, 1) := by decide +kernel
theorem d_Sy_init_50 : decode b_Sy_init 50 = .ok (.sipush 400, 3) := by decide +kernel
theorem d_Sy_init_53 : decode b_Sy_init 53 = .ok (.newarray .int, 2) := by decide +kernel
theorem d_Sy_init_55 : decode b_Sy_init 55 = .ok (.putfield 27, 3) := by decide +kernel
theorem d_Sy_init_58 : decode b_Sy_init 58 = .ok (.return_, 1) := by decide +kernel
theorem d_Re_init_0 : decode b_Re_init 0 = .ok (.aload_n 0, 1) := by decide +kernel
theorem d_Re_init_1 : decode b_Re_init 1 = .ok (.invokespecial 3, 3) := by decide +kernel
theorem d_Re_init_4 : decode b_Re_init 4 = .ok (.aload_n 0, 1) := by decide +kernel
theorem d_Re_init_5 : decode b_Re_init 5 = .ok (.sipush 600, 3) := by decide +kernel
theorem d_Re_init_8 : decode b_Re_init 8 = .ok (.newarray .int, 2) := by decide +kernel
theorem d_Re_init_10 : decode b_Re_init 10 = .ok (.putfield 9, 3) := by decide +kernel
theorem d_Re_init_13 : decode b_Re_init 13 = .ok (.aload_n 0, 1) := by decide +kernel
theorem d_Re_init_14 : decode b_Re_init 14 = .ok (.sipush 600, 3) := by decide +kernel
theorem d_Re_init_17 : decode b_Re_init 17 = .ok (.newarray .int, 2) := by decide +kernel
theorem d_Re_init_19 : decode b_Re_init 19 = .ok (.putfield 15, 3) := by decide +kernel
theorem d_Re_init_22 : decode b_Re_init 22 = .ok (.aload_n 0, 1) := by decide +kernel
theorem d_Re_init_23 : decode b_Re_init 23 = .ok (.sipush 600, 3) := by decide +kernel
theorem d_Re_init_26 : decode b_Re_init 26 = .ok (.newarray .int, 2) := by decide +kernel
theorem d_Re_init_28 : decode b_Re_init 28 = .ok (.putfield 18, 3) := by decide +kernel
theorem d_Re_init_31 : decode b_Re_init 31 = .ok (.aload_n 0, 1) := by decide +kernel
theorem d_Re_init_32 : decode b_Re_init 32 = .ok (.sipush 600, 3) := by decide +kernel
theorem d_Re_init_35 : decode b_Re_init 35 = .ok (.newarray .int, 2) := by decide +kernel
theorem d_Re_init_37 : decode b_Re_init 37 = .ok (.putfield 21, 3) := by decide +kernel
theorem d_Re_init_40 : decode b_Re_init 40 = .ok (.aload_n 0, 1) := by decide +kernel
theorem d_Re_init_41 : decode b_Re_init 41 = .ok (.sipush 600, 3) := by decide +kernel
theorem d_Re_init_44 : decode b_Re_init 44 = .ok (.newarray .int, 2) := by decide +kernel
theorem d_Re_init_46 : decode b_Re_init 46 = .ok (.putfield 24, 3) := by decide +kernel
theorem d_Re_init_49 : decode b_Re_init 49 = .ok (.aload_n 0, 1) := by decide +kernel
theorem d_Re_init_50 : decode b_Re_init 50 = .ok (.sipush 600, 3) := by decide +kernel
theorem d_Re_init_53 : decode b_Re_init 53 = .ok (.newarray .int, 2) := by decide +kernel
theorem d_Re_init_55 : decode b_Re_init 55 = .ok (.putfield 27, 3) := by decide +kernel
theorem d_Re_init_58 : decode b_Re_init 58 = .ok (.aload_n 0, 1) := by decide +kernel
theorem d_Re_init_59 : decode b_Re_init 59 = .ok (.bipush 97, 2) := by decide +kernel
theorem d_Re_init_61 : decode b_Re_init 61 = .ok (.newarray .int, 2) := by decide +kernel
theorem d_Re_init_63 : decode b_Re_init 63 = .ok (.putfield 30, 3) := by decide +kernel
theorem d_Re_init_66 : decode b_Re_init 66 = .ok (.aload_n 0, 1) := by decide +kernel
theorem d_Re_init_67 : decode b_Re_init 67 = .ok (.bipush 96, 2) := by decide +kernel
theorem d_Re_init_69 : decode b_Re_init 69 = .ok (.newarray .int, 2) := by decide +kernel
theorem d_Re_init_71 : decode b_Re_init 71 = .ok (.putfield 33, 3) := by decide +kernel
theorem d_Re_init_74 : decode b_Re_init 74 = .ok (.return_, 1) := by decide +kernel
theorem d_Ar_init_0 : decode b_Ar_init 0 = .ok (.aload_n 0, 1) := by decide +kernel
theorem d_Ar_init_1 : decode b_Ar_init 1 = .ok (.invokespecial 3, 3) := by decide +kernel
theorem d_Ar_init_4 : decode b_Ar_init 4 = .ok (.aload_n 0, 1) := by decide +kernel
theorem d_Ar_init_5 : decode b_Ar_init 5 = .ok (.sipush 200, 3) := by decide +kernel
theorem d_Ar_init_8 : decode b_Ar_init 8 = .ok (.newarray .boolean, 2) := by decide +kernel
theorem d_Ar_init_10 : decode b_Ar_init 10 = .ok (.putfield 9, 3) := by decide +kernel
theorem d_Ar_init_13 : decode b_Ar_init 13 = .ok (.aload_n 0, 1) := by decide +kernel
theorem d_Ar_init_14 : decode b_Ar_init 14 = .ok (.sipush 200, 3) := by decide +kernel
theorem d_Ar_init_17 : decode b_Ar_init 17 = .ok (.newarray .boolean, 2) := by decide +kernel
theorem d_Ar_init_19 : decode b_Ar_init 19 = .ok (.putfield 15, 3) := by decide +kernel
theorem d_Ar_init_22 : decode b_Ar_init 22 = .ok (.aload_n 0, 1) := by decide +kernel
theorem d_Ar_init_23 : decode b_Ar_init 23 = .ok (.aload_n 1, 1) := by decide +kernel
theorem d_Ar_init_24 : decode b_Ar_init 24 = .ok (.putfield 18, 3) := by decide +kernel
theorem d_Ar_init_27 : decode b_Ar_init 27 = .ok (.aload_n 0, 1) := by decide +kernel
theorem d_Ar_init_28 : decode b_Ar_init 28 = .ok (.aload_n 2, 1) := by decide +kernel
theorem d_Ar_init_29 : decode b_Ar_init 29 = .ok (.putfield 22, 3) := by decide +kernel
theorem d_Ar_init_32 : decode b_Ar_init 32 = .ok (.return_, 1) := by decide +kernel
theorem d_Na_init_0 : decode b_Na_init 0 = .ok (.aload_n 0, 1) := by decide +kernel
theorem d_Na_init_1 : decode b_Na_init 1 = .ok (.invokespecial 3, 3) := by decide +kernel
theorem d_Na_init_4 : decode b_Na_init 4 = .ok (.aload_n 0, 1) := by decide +kernel
theorem d_Na_init_5 : decode b_Na_init 5 = .ok (.sipush 200, 3) := by decide +kernel
theorem d_Na_init_8 : decode b_Na_init 8 = .ok (.newarray .int, 2) := by decide +kernel
theorem d_Na_init_10 : decode b_Na_init 10 = .ok (.putfield 9, 3) := by decide +kernel
theorem d_Na_init_13 : decode b_Na_init 13 = .ok (.aload_n 0, 1) := by decide +kernel
theorem d_Na_init_14 : decode b_Na_init 14 = .ok (.sipush 200, 3) := by decide +kernel
theorem d_Na_init_17 : decode b_Na_init 17 = .ok (.newarray .int, 2) := by decide +kernel
theorem d_Na_init_19 : decode b_Na_init 19 = .ok (.putfield 15, 3) := by decide +kernel
theorem d_Na_init_22 : decode b_Na_init 22 = .ok (.aload_n 0, 1) := by decide +kernel
theorem d_Na_init_23 : decode b_Na_init 23 = .ok (.sipush 200, 3) := by decide +kernel
theorem d_Na_init_26 : decode b_Na_init 26 = .ok (.newarray .int, 2) := by decide +kernel
theorem d_Na_init_28 : decode b_Na_init 28 = .ok (.putfield 18, 3) := by decide +kernel
theorem d_Na_init_31 : decode b_Na_init 31 = .ok (.aload_n 0, 1) := by decide +kernel
theorem d_Na_init_32 : decode b_Na_init 32 = .ok (.sipush 400, 3) := by decide +kernel
theorem d_Na_init_35 : decode b_Na_init 35 = .ok (.newarray .int, 2) := by decide +kernel
theorem d_Na_init_37 : decode b_Na_init 37 = .ok (.putfield 21, 3) := by decide +kernel
theorem d_Na_init_40 : decode b_Na_init 40 = .ok (.aload_n 0, 1) := by decide +kernel
theorem d_Na_init_41 : decode b_Na_init 41 = .ok (.sipush 400, 3) := by decide +kernel
theorem d_Na_init_44 : decode b_Na_init 44 = .ok (.newarray .int, 2) := by decide +kernel
theorem d_Na_init_46 : decode b_Na_init 46 = .ok (.putfield 24, 3) := by decide +kernel
theorem d_Na_init_49 : decode b_Na_init 49 = .ok (.aload_n 0, 1) := by decide +kernel
theorem d_Na_init_50 : decode b_Na_init 50 = .ok (.sipush 400, 3) := by decide +kernel
theorem d_Na_init_53 : decode b_Na_init 53 = .ok (.newarray .int, 2) := by decide +kernel
theorem d_Na_init_55 : decode b_Na_init 55 = .ok (.putfield 27, 3) := by decide +kernel
theorem d_Na_init_58 : decode b_Na_init 58 = .ok (.aload_n 0, 1) := by decide +kernel
theorem d_Na_init_59 : decode b_Na_init 59 = .ok (.aload_n 1, 1) := by decide +kernel
theorem d_Na_init_60 : decode b_Na_init 60 = .ok (.putfield 30, 3) := by decide +kernel
theorem d_Na_init_63 : decode b_Na_init 63 = .ok (.aload_n 0, 1) := by decide +kernel
theorem d_Na_init_64 : decode b_Na_init 64 = .ok (.aload_n 2, 1) := by decide +kernel
theorem d_Na_init_65 : decode b_Na_init 65 = .ok (.putfield 34, 3) := by decide +kernel
theorem d_Na_init_68 : decode b_Na_init 68 = .ok (.return_, 1) := by decide +kernel
theorem d_Rc_init_0 : decode b_Rc_init 0 = .ok (.aload_n 0, 1) := by decide +kernel
theorem d_Rc_init_1 : decode b_Rc_init 1 = .ok (.invokespecial 3, 3) := by decide +kernel
theorem d_Rc_init_4 : decode b_Rc_init 4 = .ok (.aload_n 0, 1) := by decide +kernel
theorem d_Rc_init_5 : decode b_Rc_init 5 = .ok (.bipush 96, 2) := by decide +kernel
theorem d_Rc_init_7 : decode b_Rc_init 7 = .ok (.newarray .boolean, 2) := by decide +kernel
theorem d_Rc_init_9 : decode b_Rc_init 9 = .ok (.putfield 9, 3) := by decide +kernel
theorem d_Rc_init_12 : decode b_Rc_init 12 = .ok (.aload_n 0, 1) := by decide +kernel
theorem d_Rc_init_13 : decode b_Rc_init 13 = .ok (.sipush 200, 3) := by decide +kernel
theorem d_Rc_init_16 : decode b_Rc_init 16 = .ok (.newarray .boolean, 2) := by decide +kernel
theorem d_Rc_init_18 : decode b_Rc_init 18 = .ok (.putfield 15, 3) := by decide +kernel
theorem d_Rc_init_21 : decode b_Rc_init 21 = .ok (.aload_n 0, 1) := by decide +kernel
theorem d_Rc_init_22 : decode b_Rc_init 22 = .ok (.bipush 96, 2) := by decide +kernel
theorem d_Rc_init_24 : decode b_Rc_init 24 = .ok (.newarray .int, 2) := by decide +kernel
theorem d_Rc_init_26 : decode b_Rc_init 26 = .ok (.putfield 18, 3) := by decide +kernel
theorem d_Rc_init_29 : decode b_Rc_init 29 = .ok (.aload_n 0, 1) := by decide +kernel
theorem d_Rc_init_30 : decode b_Rc_init 30 = .ok (.aload_n 1, 1) := by decide +kernel
theorem d_Rc_init_31 : decode b_Rc_init 31 = .ok (.putfield 22, 3) := by decide +kernel
theorem d_Rc_init_34 : decode b_Rc_init 34 = .ok (.aload_n 0, 1) := by decide +kernel
theorem d_Rc_init_35 : decode b_Rc_init 35 = .ok (.aload_n 2, 1) := by decide +kernel
theorem d_Rc_init_36 : decode b_Rc_init 36 = .ok (.putfield 26, 3) := by decide +kernel
theorem d_Rc_init_39 : decode b_Rc_init 39 = .ok (.aload_n 0, 1) := by decide +kernel
theorem d_Rc_init_40 : decode b_Rc_init 40 = .ok (.aload_n 3, 1) := by decide +kernel
theorem d_Rc_init_41 : decode b_Rc_init 41 = .ok (.putfield 30, 3) := by decide +kernel
theorem d_Rc_init_44 : decode b_Rc_init 44 = .ok (.aload_n 0, 1) := by decide +kernel
theorem d_Rc_init_45 : decode b_Rc_init 45 = .ok (.aload 4, 2) := by decide +kernel
theorem d_Rc_init_47 : decode b_Rc_init 47 = .ok (.putfield 34, 3) := by decide +kernel
theorem d_Rc_init_50 : decode b_Rc_init 50 = .ok (.return_, 1) := by decide +kernel
theorem d_Fo_init_0 : decode b_Fo_init 0 = .ok (.aload_n 0, 1) := by decide +kernel
theorem d_Fo_init_1 : decode b_Fo_init 1 = .ok (.invokespecial 3, 3) := by decide +kernel
theorem d_Fo_init_4 : decode b_Fo_init 4 = .ok (.aload_n 0, 1) := by decide +kernel
theorem d_Fo_init_5 : decode b_Fo_init 5 = .ok (.bipush 96, 2) := by decide +kernel
theorem d_Fo_init_7 : decode b_Fo_init 7 = .ok (.newarray .int, 2) := by decide +kernel
theorem d_Fo_init_9 : decode b_Fo_init 9 = .ok (.putfield 9, 3) := by decide +kernel
theorem d_Fo_init_12 : decode b_Fo_init 12 = .ok (.aload_n 0, 1) := by decide +kernel
theorem d_Fo_init_13 : decode b_Fo_init 13 = .ok (.bipush 96, 2) := by decide +kernel
theorem d_Fo_init_15 : decode b_Fo_init 15 = .ok (.newarray .int, 2) := by decide +kernel
theorem d_Fo_init_17 : decode b_Fo_init 17 = .ok (.putfield 15, 3) := by decide +kernel
theorem d_Fo_init_20 : decode b_Fo_init 20 = .ok (.aload_n 0, 1) := by decide +kernel
theorem d_Fo_init_21 : decode b_Fo_init 21 = .ok (.aload_n 1, 1) := by decide +kernel
theorem d_Fo_init_22 : decode b_Fo_init 22 = .ok (.putfield 18, 3) := by decide +kernel
theorem d_Fo_init_25 : decode b_Fo_init 25 = .ok (.aload_n 0, 1) := by decide +kernel
theorem d_Fo_init_26 : decode b_Fo_init 26 = .ok (.aload_n 2, 1) := by decide +kernel
theorem d_Fo_init_27 : decode b_Fo_init 27 = .ok (.putfield 22, 3) := by decide +kernel
theorem d_Fo_init_30 : decode b_Fo_init 30 = .ok (.aload_n 0, 1) := by decide +kernel
theorem d_Fo_init_31 : decode b_Fo_init 31 = .ok (.aload_n 3, 1) := by decide +kernel
theorem d_Fo_init_32 : decode b_Fo_init 32 = .ok (.putfield 26, 3) := by decide +kernel
theorem d_Fo_init_35 : decode b_Fo_init 35 = .ok (.aload_n 0, 1) := by decide +kernel
theorem d_Fo_init_36 : decode b_Fo_init 36 = .ok (.aload 4, 2) := by decide +kernel
theorem d_Fo_init_38 : decode b_Fo_init 38 = .ok (.putfield 30, 3) := by decide +kernel
theorem d_Fo_init_41 : decode b_Fo_init 41 = .ok (.return_, 1) := by decide +kernel
theorem d_La_init_0 : decode b_La_init 0 = .ok (.aload_n 0, 1) := by decide +kernel
theorem d_La_init_1 : decode b_La_init 1 = .ok (.invokespecial 3, 3) := by decide +kernel
theorem d_La_init_4 : decode b_La_init 4 = .ok (.aload_n 0, 1) := by decide +kernel
theorem d_La_init_5 : decode b_La_init 5 = .ok (.bipush 96, 2) := by decide +kernel
theorem d_La_init_7 : decode b_La_init 7 = .ok (.newarray .int, 2) := by decide +kernel
theorem d_La_init_9 : decode b_La_init 9 = .ok (.putfield 9, 3) := by decide +kernel
theorem d_La_init_12 : decode b_La_init 12 = .ok (.aload_n 0, 1) := by decide +kernel
theorem d_La_init_13 : decode b_La_init 13 = .ok (.sipush 200, 3) := by decide +kernel
theorem d_La_init_16 : decode b_La_init 16 = .ok (.newarray .int, 2) := by decide +kernel
theorem d_La_init_18 : decode b_La_init 18 = .ok (.putfield 15, 3) := by decide +kernel
theorem d_La_init_21 : decode b_La_init 21 = .ok (.aload_n 0, 1) := by decide +kernel
theorem d_La_init_22 : decode b_La_init 22 = .ok (.aload_n 1, 1) := by decide +kernel
theorem d_La_init_23 : decode b_La_init 23 = .ok (.putfield 18, 3) := by decide +kernel
theorem d_La_init_26 : decode b_La_init 26 = .ok (.aload_n 0, 1) := by decide +kernel
theorem d_La_init_27 : decode b_La_init 27 = .ok (.aload_n 2, 1) := by decide +kernel
theorem d_La_init_28 : decode b_La_init 28 = .ok (.putfield 22, 3) := by decide +kernel
theorem d_La_init_31 : decode b_La_init 31 = .ok (.aload_n 0, 1) := by decide +kernel
theorem d_La_init_32 : decode b_La_init 32 = .ok (.aload_n 3, 1) := by decide +kernel
theorem d_La_init_33 : decode b_La_init 33 = .ok (.putfield 26, 3) := by decide +kernel
theorem d_La_init_36 : decode b_La_init 36 = .ok (.aload_n 0, 1) := by decide +kernel
theorem d_La_init_37 : decode b_La_init 37 = .ok (.aload 4, 2) := by decide +kernel
theorem d_La_init_39 : decode b_La_init 39 = .ok (.putfield 30, 3) := by decide +kernel
theorem d_La_init_42 : decode b_La_init 42 = .ok (.return_, 1) := by decide +kernel
theorem d_Is_init_0 : decode b_Is_init 0 = .ok (.aload_n 0, 1) := by decide +kernel
theorem d_Is_init_1 : decode b_Is_init 1 = .ok (.invokespecial 3, 3) := by decide +kernel
theorem d_Is_init_4 : decode b_Is_init 4 = .ok (.aload_n 0, 1) := by decide +kernel
theorem d_Is_init_5 : decode b_Is_init 5 = .ok (.bipush 32, 2) := by decide +kernel
theorem d_Is_init_7 : decode b_Is_init 7 = .ok (.newarray .int, 2) := by decide +kernel
theorem d_Is_init_9 : decode b_Is_init 9 = .ok (.putfield 9, 3) := by decide +kernel
theorem d_Is_init_12 : decode b_Is_init 12 = .ok (.aload_n 0, 1) := by decide +kernel
theorem d_Is_init_13 : decode b_Is_init 13 = .ok (.bipush 32, 2) := by decide +kernel
theorem d_Is_init_15 : decode b_Is_init 15 = .ok (.newarray .int, 2) := by decide +kernel
theorem d_Is_init_17 : decode b_Is_init 17 = .ok (.putfield 15, 3) := by decide +kernel
theorem d_Is_init_20 : decode b_Is_init 20 = .ok (.aload_n 0, 1) := by decide +kernel
theorem d_Is_init_21 : decode b_Is_init 21 = .ok (.bipush 32, 2) := by decide +kernel
theorem d_Is_init_23 : decode b_Is_init 23 = .ok (.newarray .int, 2) := by decide +kernel
theorem d_Is_init_25 : decode b_Is_init 25 = .ok (.putfield 18, 3) := by decide +kernel
theorem d_Is_init_28 : decode b_Is_init 28 = .ok (.aload_n 0, 1) := by decide +kernel
theorem d_Is_init_29 : decode b_Is_init 29 = .ok (.sipush 600, 3) := by decide +kernel
theorem d_Is_init_32 : decode b_Is_init 32 = .ok (.newarray .int, 2) := by decide +kernel
theorem d_Is_init_34 : decode b_Is_init 34 = .ok (.putfield 21, 3) := by decide +kernel
theorem d_Is_init_37 : decode b_Is_init 37 = .ok (.aload_n 0, 1) := by decide +kernel
theorem d_Is_init_38 : decode b_Is_init 38 = .ok (.aload_n 1, 1) := by decide +kernel
theorem d_Is_init_39 : decode b_Is_init 39 = .ok (.putfield 24, 3) := by decide +kernel
theorem d_Is_init_42 : decode b_Is_init 42 = .ok (.aload_n 0, 1) := by decide +kernel
theorem d_Is_init_43 : decode b_Is_init 43 = .ok (.aload_n 2, 1) := by decide +kernel
theorem d_Is_init_44 : decode b_Is_init 44 = .ok (.putfield 28, 3) := by decide +kernel
theorem d_Is_init_47 : decode b_Is_init 47 = .ok (.aload_n 0, 1) := by decide +kernel
theorem d_Is_init_48 : decode b_Is_init 48 = .ok (.aload_n 3, 1) := by decide +kernel
theorem d_Is_init_49 : decode b_Is_init 49 = .ok (.putfield 32, 3) := by decide +kernel
theorem d_Is_init_52 : decode b_Is_init 52 = .ok (.aload_n 0, 1) := by decide +kernel
theorem d_Is_init_53 : decode b_Is_init 53 = .ok (.aload 4, 2) := by decide +kernel
theorem d_Is_init_55 : decode b_Is_init 55 = .ok (.putfield 36, 3) := by decide +kernel
theorem d_Is_init_58 : decode b_Is_init 58 = .ok (.aload_n 0, 1) := by decide +kernel
theorem d_Is_init_59 : decode b_Is_init 59 = .ok (.aload 5, 2) := by decide +kernel
theorem d_Is_init_61 : decode b_Is_init 61 = .ok (.putfield 40, 3) := by decide +kernel
theorem d_Is_init_64 : decode b_Is_init 64 = .ok (.return_, 1) := by decide +kernel
theorem d_Me_init_0 : decode b_Me_init 0 = .ok (.aload_n 0, 1) := by decide +kernel
theorem d_Me_init_1 : decode b_Me_init 1 = .ok (.invokespecial 3, 3) := by decide +kernel
theorem d_Me_init_4 : decode b_Me_init 4 = .ok (.aload_n 0, 1) := by decide +kernel
theorem d_Me_init_5 : decode b_Me_init 5 = .ok (.aload_n 1, 1) := by decide +kernel
theorem d_Me_init_6 : decode b_Me_init 6 = .ok (.putfield 9, 3) := by decide +kernel
theorem d_Me_init_9 : decode b_Me_init 9 = .ok (.aload_n 0, 1) := by decide +kernel
theorem d_Me_init_10 : decode b_Me_init 10 = .ok (.aload_n 2, 1) := by decide +kernel
theorem d_Me_init_11 : decode b_Me_init 11 = .ok (.putfield 15, 3) := by decide +kernel
theorem d_Me_init_14 : decode b_Me_init 14 = .ok (.aload_n 0, 1) := by decide +kernel
theorem d_Me_init_15 : decode b_Me_init 15 = .ok (.aload_n 3, 1) := by decide +kernel
theorem d_Me_init_16 : decode b_Me_init 16 = .ok (.putfield 19, 3) := by decide +kernel
theorem d_Me_init_19 : decode b_Me_init 19 = .ok (.aload_n 0, 1) := by decide +kernel
theorem d_Me_init_20 : decode b_Me_init 20 = .ok (.aload 4, 2) := by decide +kernel
theorem d_Me_init_22 : decode b_Me_init 22 = .ok (.putfield 23, 3) := by decide +kernel
theorem d_Me_init_25 : decode b_Me_init 25 = .ok (.return_, 1) := by decide +kernel
