abbrev b_Ly_init : ByteArray := prog_1_method_1_code
def y_Ly_init : MethodName := ⟨R_Ly, "<init>", "()V"⟩
abbrev rm_Ly_init : Room := { frames := 2, cells := 53, slots := 11698, locals := 45 }
theorem mo_Ly_1 : Cond.methodLink R_Ly 1 Lib.objectInit ∈ ALLW := (mw 120 (by decide +kernel))
theorem nw_Ly_7 : NewOk R_Ly 7 1 [.int 0, .null, .null] := ⟨R_Un, F_Un, N_Un, t_Un, rfl, i_Un, t_Un_ok, (mw 123 (by decide +kernel)), (mw 124 (by decide +kernel)), (mw 84 (by decide +kernel)), by decide +kernel, rfl⟩
theorem mi_Un : Cond.instanceMethod y_Un_init ∈ ALLW := (mw 126 (by decide +kernel))
theorem ff_Ly_0 : FTf R_Ly 0 0 (.object "LinkYard$Units") := ⟨R_Ly, F_Ly, N_Ly, rfl, rfl, rfl, by decide +kernel⟩
theorem nw_Ly_16 : NewOk R_Ly 16 2 [.int 0, .int 0, .int 0, .null, .null, .null, .null, .null, .null, .null] := ⟨R_Se, F_Se, N_Se, t_Se, rfl, i_Se, t_Se_ok, (mw 148 (by decide +kernel)), (mw 149 (by decide +kernel)), (mw 85 (by decide +kernel)), by decide +kernel, rfl⟩
theorem mi_Se : Cond.instanceMethod y_Se_init ∈ ALLW := (mw 151 (by decide +kernel))
theorem ff_Ly_1 : FTf R_Ly 0 1 (.object "LinkYard$Sections") := ⟨R_Ly, F_Ly, N_Ly, rfl, rfl, rfl, by decide +kernel⟩
theorem nw_Ly_23 : NewOk R_Ly 23 3 [.int 0, .null, .null, .null, .null, .null, .null] := ⟨R_Sy, F_Sy, N_Sy, t_Sy, rfl, i_Sy, t_Sy_ok, (mw 204 (by decide +kernel)), (mw 205 (by decide +kernel)), (mw 86 (by decide +kernel)), by decide +kernel, rfl⟩
theorem mi_Sy : Cond.instanceMethod y_Sy_init ∈ ALLW := (mw 207 (by decide +kernel))
theorem ff_Ly_2 : FTf R_Ly 0 2 (.object "LinkYard$Symbols") := ⟨R_Ly, F_Ly, N_Ly, rfl, rfl, rfl, by decide +kernel⟩
theorem nw_Ly_30 : NewOk R_Ly 30 4 [.int 0, .null, .null, .null, .null, .null, .null, .null, .null] := ⟨R_Re, F_Re, N_Re, t_Re, rfl, i_Re, t_Re_ok, (mw 246 (by decide +kernel)), (mw 247 (by decide +kernel)), (mw 87 (by decide +kernel)), by decide +kernel, rfl⟩
theorem mi_Re : Cond.instanceMethod y_Re_init ∈ ALLW := (mw 249 (by decide +kernel))
theorem ff_Ly_3 : FTf R_Ly 0 3 (.object "LinkYard$Relocations") := ⟨R_Ly, F_Ly, N_Ly, rfl, rfl, rfl, by decide +kernel⟩
theorem nw_Ly_37 : NewOk R_Ly 37 5 [.null, .null, .null, .null] := ⟨R_Ar, F_Ar, N_Ar, t_Ar, rfl, i_Ar, t_Ar_ok, (mw 302 (by decide +kernel)), (mw 303 (by decide +kernel)), (mw 88 (by decide +kernel)), by decide +kernel, rfl⟩
theorem mi_Ar : Cond.instanceMethod y_Ar_init ∈ ALLW := (mw 305 (by decide +kernel))
theorem ml_Ly_39 : MLb R_Ly 39 y_Ar_init b_Ar_init 3 (none) 2 := ⟨(mw 306 (by decide +kernel)), (mw 304 (by decide +kernel)), (mw 88 (by decide +kernel)), by decide +kernel⟩
theorem ff_Ly_4 : FTf R_Ly 0 4 (.object "LinkYard$Arrivals") := ⟨R_Ly, F_Ly, N_Ly, rfl, rfl, rfl, by decide +kernel⟩
theorem nw_Ly_46 : NewOk R_Ly 46 6 [.null, .null, .null, .null, .null, .int 0, .null, .null, .null] := ⟨R_Na, F_Na, N_Na, t_Na, rfl, i_Na, t_Na_ok, (mw 321 (by decide +kernel)), (mw 322 (by decide +kernel)), (mw 89 (by decide +kernel)), by decide +kernel, rfl⟩
theorem mi_Na : Cond.instanceMethod y_Na_init ∈ ALLW := (mw 324 (by decide +kernel))
theorem ml_Ly_48 : MLb R_Ly 48 y_Na_init b_Na_init 3 (none) 2 := ⟨(mw 325 (by decide +kernel)), (mw 323 (by decide +kernel)), (mw 89 (by decide +kernel)), by decide +kernel⟩
theorem ff_Ly_5 : FTf R_Ly 0 5 (.object "LinkYard$Names") := ⟨R_Ly, F_Ly, N_Ly, rfl, rfl, rfl, by decide +kernel⟩
theorem nw_Ly_53 : NewOk R_Ly 53 7 [.null, .null, .null, .null, .null, .null, .int 0, .null] := ⟨R_Rc, F_Rc, N_Rc, t_Rc, rfl, i_Rc, t_Rc_ok, (mw 369 (by decide +kernel)), (mw 370 (by decide +kernel)), (mw 90 (by decide +kernel)), by decide +kernel, rfl⟩
theorem mi_Rc : Cond.instanceMethod y_Rc_init ∈ ALLW := (mw 372 (by decide +kernel))
theorem ml_Ly_55 : MLb R_Ly 55 y_Rc_init b_Rc_init 5 (none) 4 := ⟨(mw 373 (by decide +kernel)), (mw 371 (by decide +kernel)), (mw 90 (by decide +kernel)), by decide +kernel⟩
theorem ff_Ly_6 : FTf R_Ly 0 6 (.object "LinkYard$Reach") := ⟨R_Ly, F_Ly, N_Ly, rfl, rfl, rfl, by decide +kernel⟩
theorem nw_Ly_62 : NewOk R_Ly 62 8 [.null, .null, .null, .null, .null, .null] := ⟨R_Fo, F_Fo, N_Fo, t_Fo, rfl, i_Fo, t_Fo_ok, (mw 405 (by decide +kernel)), (mw 406 (by decide +kernel)), (mw 91 (by decide +kernel)), by decide +kernel, rfl⟩
theorem mi_Fo : Cond.instanceMethod y_Fo_init ∈ ALLW := (mw 408 (by decide +kernel))
theorem ml_Ly_64 : MLb R_Ly 64 y_Fo_init b_Fo_init 5 (none) 4 := ⟨(mw 409 (by decide +kernel)), (mw 407 (by decide +kernel)), (mw 91 (by decide +kernel)), by decide +kernel⟩
theorem ff_Ly_7 : FTf R_Ly 0 7 (.object "LinkYard$Folding") := ⟨R_Ly, F_Ly, N_Ly, rfl, rfl, rfl, by decide +kernel⟩
theorem nw_Ly_71 : NewOk R_Ly 71 9 [.null, .null, .null, .null, .int 0, .int 0, .int 0, .int 0, .null, .null] := ⟨R_La, F_La, N_La, t_La, rfl, i_La, t_La_ok, (mw 432 (by decide +kernel)), (mw 433 (by decide +kernel)), (mw 92 (by decide +kernel)), by decide +kernel, rfl⟩
theorem mi_La : Cond.instanceMethod y_La_init ∈ ALLW := (mw 435 (by decide +kernel))
theorem ml_Ly_73 : MLb R_Ly 73 y_La_init b_La_init 5 (none) 4 := ⟨(mw 436 (by decide +kernel)), (mw 434 (by decide +kernel)), (mw 92 (by decide +kernel)), by decide +kernel⟩
theorem ff_Ly_8 : FTf R_Ly 0 8 (.object "LinkYard$Layout") := ⟨R_Ly, F_Ly, N_Ly, rfl, rfl, rfl, by decide +kernel⟩
theorem nw_Ly_80 : NewOk R_Ly 80 10 [.null, .null, .null, .null, .null, .int 0, .int 0, .null, .null, .null, .null] := ⟨R_Is, F_Is, N_Is, t_Is, rfl, i_Is, t_Is_ok, (mw 478 (by decide +kernel)), (mw 479 (by decide +kernel)), (mw 93 (by decide +kernel)), by decide +kernel, rfl⟩
theorem mi_Is : Cond.instanceMethod y_Is_init ∈ ALLW := (mw 481 (by decide +kernel))
theorem ml_Ly_82 : MLb R_Ly 82 y_Is_init b_Is_init 6 (none) 5 := ⟨(mw 482 (by decide +kernel)), (mw 480 (by decide +kernel)), (mw 93 (by decide +kernel)), by decide +kernel⟩
theorem ff_Ly_9 : FTf R_Ly 0 9 (.object "LinkYard$Islands") := ⟨R_Ly, F_Ly, N_Ly, rfl, rfl, rfl, by decide +kernel⟩
theorem nw_Ly_89 : NewOk R_Ly 89 11 [.null, .null, .null, .null] := ⟨R_Me, F_Me, N_Me, t_Me, rfl, i_Me, t_Me_ok, (mw 520 (by decide +kernel)), (mw 521 (by decide +kernel)), (mw 94 (by decide +kernel)), by decide +kernel, rfl⟩
theorem mi_Me : Cond.instanceMethod y_Me_init ∈ ALLW := (mw 523 (by decide +kernel))
theorem ml_Ly_91 : MLb R_Ly 91 y_Me_init b_Me_init 5 (none) 4 := ⟨(mw 524 (by decide +kernel)), (mw 522 (by decide +kernel)), (mw 94 (by decide +kernel)), by decide +kernel⟩
theorem ff_Ly_10 : FTf R_Ly 0 10 (.object "LinkYard$Mending") := ⟨R_Ly, F_Ly, N_Ly, rfl, rfl, rfl, by decide +kernel⟩
theorem d_Ly_init_0 : decode b_Ly_init 0 = .ok (.aload_n 0, 1) := by decide +kernel
theorem d_Ly_init_1 : decode b_Ly_init 1 = .ok (.invokespecial 1, 3) := by decide +kernel
theorem d_Ly_init_4 : decode b_Ly_init 4 = .ok (.aload_n 0, 1) := by decide +kernel
theorem d_Ly_init_5 : decode b_Ly_init 5 = .ok (.new 7, 3) := by decide +kernel
theorem d_Ly_init_8 : decode b_Ly_init 8 = .ok (.dup, 1) := by decide +kernel
theorem d_Ly_init_9 : decode b_Ly_init 9 = .ok (.invokespecial 9, 3) := by decide +kernel
theorem d_Ly_init_12 : decode b_Ly_init 12 = .ok (.putfield 10, 3) := by decide +kernel
theorem d_Ly_init_15 : decode b_Ly_init 15 = .ok (.aload_n 0, 1) := by decide +kernel
theorem d_Ly_init_16 : decode b_Ly_init 16 = .ok (.new 16, 3) := by decide +kernel
theorem d_Ly_init_19 : decode b_Ly_init 19 = .ok (.dup, 1) := by decide +kernel
theorem d_Ly_init_20 : decode b_Ly_init 20 = .ok (.invokespecial 18, 3) := by decide +kernel
theorem d_Ly_init_23 : decode b_Ly_init 23 = .ok (.putfield 19, 3) := by decide +kernel
theorem d_Ly_init_26 : decode b_Ly_init 26 = .ok (.aload_n 0, 1) := by decide +kernel
theorem d_Ly_init_27 : decode b_Ly_init 27 = .ok (.new 23, 3) := by decide +kernel
theorem d_Ly_init_30 : decode b_Ly_init 30 = .ok (.dup, 1) := by decide +kernel
theorem d_Ly_init_31 : decode b_Ly_init 31 = .ok (.invokespecial 25, 3) := by decide +kernel
theorem d_Ly_init_34 : decode b_Ly_init 34 = .ok (.putfield 26, 3) := by decide +kernel
theorem d_Ly_init_37 : decode b_Ly_init 37 = .ok (.aload_n 0, 1) := by decide +kernel
theorem d_Ly_init_38 : decode b_Ly_init 38 = .ok (.new 30, 3) := by decide +kernel
theorem d_Ly_init_41 : decode b_Ly_init 41 = .ok (.dup, 1) := by decide +kernel
theorem d_Ly_init_42 : decode b_Ly_init 42 = .ok (.invokespecial 32, 3) := by decide +kernel
theorem d_Ly_init_45 : decode b_Ly_init 45 = .ok (.putfield 33, 3) := by decide +kernel
theorem d_Ly_init_48 : decode b_Ly_init 48 = .ok (.aload_n 0, 1) := by decide +kernel
theorem d_Ly_init_49 : decode b_Ly_init 49 = .ok (.new 37, 3) := by decide +kernel
theorem d_Ly_init_52 : decode b_Ly_init 52 = .ok (.dup, 1) := by decide +kernel
theorem d_Ly_init_53 : decode b_Ly_init 53 = .ok (.aload_n 0, 1) := by decide +kernel
theorem d_Ly_init_54 : decode b_Ly_init 54 = .ok (.getfield 10, 3) := by decide +kernel
theorem d_Ly_init_57 : decode b_Ly_init 57 = .ok (.aload_n 0, 1) := by decide +kernel
theorem d_Ly_init_58 : decode b_Ly_init 58 = .ok (.getfield 26, 3) := by decide +kernel
theorem d_Ly_init_61 : decode b_Ly_init 61 = .ok (.invokespecial 39, 3) := by decide +kernel
theorem d_Ly_init_64 : decode b_Ly_init 64 = .ok (.putfield 42, 3) := by decide +kernel
theorem d_Ly_init_67 : decode b_Ly_init 67 = .ok (.aload_n 0, 1) := by decide +kernel
theorem d_Ly_init_68 : decode b_Ly_init 68 = .ok (.new 46, 3) := by decide +kernel
theorem d_Ly_init_71 : decode b_Ly_init 71 = .ok (.dup, 1) := by decide +kernel
theorem d_Ly_init_72 : decode b_Ly_init 72 = .ok (.aload_n 0, 1) := by decide +kernel
theorem d_Ly_init_73 : decode b_Ly_init 73 = .ok (.getfield 10, 3) := by decide +kernel
theorem d_Ly_init_76 : decode b_Ly_init 76 = .ok (.aload_n 0, 1) := by decide +kernel
theorem d_Ly_init_77 : decode b_Ly_init 77 = .ok (.getfield 26, 3) := by decide +kernel
theorem d_Ly_init_80 : decode b_Ly_init 80 = .ok (.invokespecial 48, 3) := by decide +kernel
theorem d_Ly_init_83 : decode b_Ly_init 83 = .ok (.putfield 49, 3) := by decide +kernel
theorem d_Ly_init_86 : decode b_Ly_init 86 = .ok (.aload_n 0, 1) := by decide +kernel
theorem d_Ly_init_87 : decode b_Ly_init 87 = .ok (.new 53, 3) := by decide +kernel
theorem d_Ly_init_90 : decode b_Ly_init 90 = .ok (.dup, 1) := by decide +kernel
theorem d_Ly_init_91 : decode b_Ly_init 91 = .ok (.aload_n 0, 1) := by decide +kernel
theorem d_Ly_init_92 : decode b_Ly_init 92 = .ok (.getfield 10, 3) := by decide +kernel
theorem d_Ly_init_95 : decode b_Ly_init 95 = .ok (.aload_n 0, 1) := by decide +kernel
theorem d_Ly_init_96 : decode b_Ly_init 96 = .ok (.getfield 19, 3) := by decide +kernel
theorem d_Ly_init_99 : decode b_Ly_init 99 = .ok (.aload_n 0, 1) := by decide +kernel
theorem d_Ly_init_100 : decode b_Ly_init 100 = .ok (.getfield 33, 3) := by decide +kernel
theorem d_Ly_init_103 : decode b_Ly_init 103 = .ok (.aload_n 0, 1) := by decide +kernel
theorem d_Ly_init_104 : decode b_Ly_init 104 = .ok (.getfield 49, 3) := by decide +kernel
theorem d_Ly_init_107 : decode b_Ly_init 107 = .ok (.invokespecial 55, 3) := by decide +kernel
theorem d_Ly_init_110 : decode b_Ly_init 110 = .ok (.putfield 58, 3) := by decide +kernel
theorem d_Ly_init_113 : decode b_Ly_init 113 = .ok (.aload_n 0, 1) := by decide +kernel
theorem d_Ly_init_114 : decode b_Ly_init 114 = .ok (.new 62, 3) := by decide +kernel
theorem d_Ly_init_117 : decode b_Ly_init 117 = .ok (.dup, 1) := by decide +kernel
theorem d_Ly_init_118 : decode b_Ly_init 118 = .ok (.aload_n 0, 1) := by decide +kernel
theorem d_Ly_init_119 : decode b_Ly_init 119 = .ok (.getfield 19, 3) := by decide +kernel
theorem d_Ly_init_122 : decode b_Ly_init 122 = .ok (.aload_n 0, 1) := by decide +kernel
theorem d_Ly_init_123 : decode b_Ly_init 123 = .ok (.getfield 33, 3) := by decide +kernel
theorem d_Ly_init_126 : decode b_Ly_init 126 = .ok (.aload_n 0, 1) := by decide +kernel
theorem d_Ly_init_127 : decode b_Ly_init 127 = .ok (.getfield 49, 3) := by decide +kernel
theorem d_Ly_init_130 : decode b_Ly_init 130 = .ok (.aload_n 0, 1) := by decide +kernel
theorem d_Ly_init_131 : decode b_Ly_init 131 = .ok (.getfield 58, 3) := by decide +kernel
theorem d_Ly_init_134 : decode b_Ly_init 134 = .ok (.invokespecial 64, 3) := by decide +kernel
theorem d_Ly_init_137 : decode b_Ly_init 137 = .ok (.putfield 67, 3) := by decide +kernel
theorem d_Ly_init_140 : decode b_Ly_init 140 = .ok (.aload_n 0, 1) := by decide +kernel
theorem d_Ly_init_141 : decode b_Ly_init 141 = .ok (.new 71, 3) := by decide +kernel
theorem d_Ly_init_144 : decode b_Ly_init 144 = .ok (.dup, 1) := by decide +kernel
theorem d_Ly_init_145 : decode b_Ly_init 145 = .ok (.aload_n 0, 1) := by decide +kernel
theorem d_Ly_init_146 : decode b_Ly_init 146 = .ok (.getfield 19, 3) := by decide +kernel
theorem d_Ly_init_149 : decode b_Ly_init 149 = .ok (.aload_n 0, 1) := by decide +kernel
theorem d_Ly_init_150 : decode b_Ly_init 150 = .ok (.getfield 49, 3) := by decide +kernel
theorem d_Ly_init_153 : decode b_Ly_init 153 = .ok (.aload_n 0, 1) := by decide +kernel
theorem d_Ly_init_154 : decode b_Ly_init 154 = .ok (.getfield 58, 3) := by decide +kernel
theorem d_Ly_init_157 : decode b_Ly_init 157 = .ok (.aload_n 0, 1) := by decide +kernel
theorem d_Ly_init_158 : decode b_Ly_init 158 = .ok (.getfield 67, 3) := by decide +kernel
theorem d_Ly_init_161 : decode b_Ly_init 161 = .ok (.invokespecial 73, 3) := by decide +kernel
theorem d_Ly_init_164 : decode b_Ly_init 164 = .ok (.putfield 76, 3) := by decide +kernel
theorem d_Ly_init_167 : decode b_Ly_init 167 = .ok (.aload_n 0, 1) := by decide +kernel
theorem d_Ly_init_168 : decode b_Ly_init 168 = .ok (.new 80, 3) := by decide +kernel
theorem d_Ly_init_171 : decode b_Ly_init 171 = .ok (.dup, 1) := by decide +kernel
theorem d_Ly_init_172 : decode b_Ly_init 172 = .ok (.aload_n 0, 1) := by decide +kernel
theorem d_Ly_init_173 : decode b_Ly_init 173 = .ok (.getfield 19, 3) := by decide +kernel
theorem d_Ly_init_176 : decode b_Ly_init 176 = .ok (.aload_n 0, 1) := by decide +kernel
theorem d_Ly_init_177 : decode b_Ly_init 177 = .ok (.getfield 33, 3) := by decide +kernel
theorem d_Ly_init_180 : decode b_Ly_init 180 = .ok (.aload_n 0, 1) := by decide +kernel
theorem d_Ly_init_181 : decode b_Ly_init 181 = .ok (.getfield 49, 3) := by decide +kernel
theorem d_Ly_init_184 : decode b_Ly_init 184 = .ok (.aload_n 0, 1) := by decide +kernel
theorem d_Ly_init_185 : decode b_Ly_init 185 = .ok (.getfield 67, 3) := by decide +kernel
theorem d_Ly_init_188 : decode b_Ly_init 188 = .ok (.aload_n 0, 1) := by decide +kernel
theorem d_Ly_init_189 : decode b_Ly_init 189 = .ok (.getfield 76, 3) := by decide +kernel
theorem d_Ly_init_192 : decode b_Ly_init 192 = .ok (.invokespecial 82, 3) := by decide +kernel
theorem d_Ly_init_195 : decode b_Ly_init 195 = .ok (.putfield 85, 3) := by decide +kernel
theorem d_Ly_init_198 : decode b_Ly_init 198 = .ok (.aload_n 0, 1) := by decide +kernel
theorem d_Ly_init_199 : decode b_Ly_init 199 = .ok (.new 89, 3) := by decide +kernel
theorem d_Ly_init_202 : decode b_Ly_init 202 = .ok (.dup, 1) := by decide +kernel
theorem d_Ly_init_203 : decode b_Ly_init 203 = .ok (.aload_n 0, 1) := by decide +kernel
theorem d_Ly_init_204 : decode b_Ly_init 204 = .ok (.getfield 19, 3) := by decide +kernel
theorem d_Ly_init_207 : decode b_Ly_init 207 = .ok (.aload_n 0, 1) := by decide +kernel
theorem d_Ly_init_208 : decode b_Ly_init 208 = .ok (.getfield 33, 3) := by decide +kernel
theorem d_Ly_init_211 : decode b_Ly_init 211 = .ok (.aload_n 0, 1) := by decide +kernel
theorem d_Ly_init_212 : decode b_Ly_init 212 = .ok (.getfield 76, 3) := by decide +kernel
theorem d_Ly_init_215 : decode b_Ly_init 215 = .ok (.aload_n 0, 1) := by decide +kernel
theorem d_Ly_init_216 : decode b_Ly_init 216 = .ok (.getfield 85, 3) := by decide +kernel
theorem d_Ly_init_219 : decode b_Ly_init 219 = .ok (.invokespecial 91, 3) := by decide +kernel
theorem d_Ly_init_222 : decode b_Ly_init 222 = .ok (.putfield 94, 3) := by decide +kernel
theorem d_Ly_init_225 : decode b_Ly_init 225 = .ok (.aload_n 0, 1) := by decide +kernel
theorem d_Ly_init_226 : decode b_Ly_init 226 = .ok (.iconst (-1), 1) := by decide +kernel
theorem d_Ly_init_227 : decode b_Ly_init 227 = .ok (.putfield 98, 3) := by decide +kernel
theorem d_Ly_init_230 : decode b_Ly_init 230 = .ok (.aload_n 0, 1) := by decide +kernel
theorem d_Ly_init_231 : decode b_Ly_init 231 = .ok (.iconst (-1), 1) := by decide +kernel
theorem d_Ly_init_232 : decode b_Ly_init 232 = .ok (.putfield 102, 3) := by decide +kernel
theorem d_Ly_init_235 : decode b_Ly_init 235 = .ok (.aload_n 0, 1) := by decide +kernel
theorem d_Ly_init_236 : decode b_Ly_init 236 = .ok (.iconst (-1), 1) := by decide +kernel
theorem d_Ly_init_237 : decode b_Ly_init 237 = .ok (.putfield 105, 3) := by decide +kernel
theorem d_Ly_init_240 : decode b_Ly_init 240 = .ok (.return_, 1) := by decide +kernel
/-- the class's state at first -/
def V0C : Sto := fun k => if k = 0 then (fun j => if j = 11 then -1 else if j = 16 then -1 else if j = 17 then -1 else 0) else if k = 1000 then (fun j => if j = 14 then 1024 else 0) else fun _ => 0
