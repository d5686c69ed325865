abbrev b_Mo_init : ByteArray := prog_14_method_1_code
def y_Mo_init : MethodName := ⟨R_Mo, "<init>", "()V"⟩
abbrev rm_Mo_init : Room := { frames := 1, cells := 31, slots := 216960, locals := 20 }
theorem mo_Mo_1 : Cond.methodLink R_Mo 1 Lib.objectInit ∈ ALLW := (mw 1564 (by decide +kernel))
theorem ff_Mo_2 : FTf R_Mo 12 2 (.array .int) := ⟨R_Mo, F_Mo, N_Mo, rfl, rfl, rfl, by decide +kernel⟩
theorem ff_Mo_4 : FTf R_Mo 12 4 (.array .int) := ⟨R_Mo, F_Mo, N_Mo, rfl, rfl, rfl, by decide +kernel⟩
theorem ff_Mo_5 : FTf R_Mo 12 5 (.array .int) := ⟨R_Mo, F_Mo, N_Mo, rfl, rfl, rfl, by decide +kernel⟩
theorem ff_Mo_6 : FTf R_Mo 12 6 (.array .int) := ⟨R_Mo, F_Mo, N_Mo, rfl, rfl, rfl, by decide +kernel⟩
theorem ff_Mo_7 : FTf R_Mo 12 7 (.array .int) := ⟨R_Mo, F_Mo, N_Mo, rfl, rfl, rfl, by decide +kernel⟩
theorem ff_Mo_8 : FTf R_Mo 12 8 (.array .int) := ⟨R_Mo, F_Mo, N_Mo, rfl, rfl, rfl, by decide +kernel⟩
theorem ff_Mo_9 : FTf R_Mo 12 9 (.array .boolean) := ⟨R_Mo, F_Mo, N_Mo, rfl, rfl, rfl, by decide +kernel⟩
theorem kc_Mo_32 : Cond.constant R_Mo 32 100000 ∈ ALLW := (mw 1565 (by decide +kernel))
theorem ff_Mo_12 : FTf R_Mo 12 12 (.array .int) := ⟨R_Mo, F_Mo, N_Mo, rfl, rfl, rfl, by decide +kernel⟩
theorem ff_Mo_14 : FTf R_Mo 12 14 (.array .int) := ⟨R_Mo, F_Mo, N_Mo, rfl, rfl, rfl, by decide +kernel⟩
theorem ff_Mo_15 : FTf R_Mo 12 15 (.array .int) := ⟨R_Mo, F_Mo, N_Mo, rfl, rfl, rfl, by decide +kernel⟩
theorem ff_Mo_16 : FTf R_Mo 12 16 (.array .int) := ⟨R_Mo, F_Mo, N_Mo, rfl, rfl, rfl, by decide +kernel⟩
theorem ff_Mo_17 : FTf R_Mo 12 17 (.array .int) := ⟨R_Mo, F_Mo, N_Mo, rfl, rfl, rfl, by decide +kernel⟩
theorem ff_Mo_18 : FTf R_Mo 12 18 (.array .int) := ⟨R_Mo, F_Mo, N_Mo, rfl, rfl, rfl, by decide +kernel⟩
theorem ff_Mo_19 : FTf R_Mo 12 19 (.array .int) := ⟨R_Mo, F_Mo, N_Mo, rfl, rfl, rfl, by decide +kernel⟩
theorem ff_Mo_21 : FTf R_Mo 12 21 (.array .int) := ⟨R_Mo, F_Mo, N_Mo, rfl, rfl, rfl, by decide +kernel⟩
theorem ff_Mo_22 : FTf R_Mo 12 22 (.array .int) := ⟨R_Mo, F_Mo, N_Mo, rfl, rfl, rfl, by decide +kernel⟩
theorem ff_Mo_23 : FTf R_Mo 12 23 (.array .int) := ⟨R_Mo, F_Mo, N_Mo, rfl, rfl, rfl, by decide +kernel⟩
theorem ff_Mo_24 : FTf R_Mo 12 24 (.array .int) := ⟨R_Mo, F_Mo, N_Mo, rfl, rfl, rfl, by decide +kernel⟩
theorem ff_Mo_25 : FTf R_Mo 12 25 (.array .int) := ⟨R_Mo, F_Mo, N_Mo, rfl, rfl, rfl, by decide +kernel⟩
theorem ff_Mo_36 : FTf R_Mo 12 36 (.array .boolean) := ⟨R_Mo, F_Mo, N_Mo, rfl, rfl, rfl, by decide +kernel⟩
theorem ff_Mo_37 : FTf R_Mo 12 37 (.array .int) := ⟨R_Mo, F_Mo, N_Mo, rfl, rfl, rfl, by decide +kernel⟩
theorem ff_Mo_38 : FTf R_Mo 12 38 (.array .int) := ⟨R_Mo, F_Mo, N_Mo, rfl, rfl, rfl, by decide +kernel⟩
theorem ff_Mo_39 : FTf R_Mo 12 39 (.array .boolean) := ⟨R_Mo, F_Mo, N_Mo, rfl, rfl, rfl, by decide +kernel⟩
theorem ff_Mo_40 : FTf R_Mo 12 40 (.array .int) := ⟨R_Mo, F_Mo, N_Mo, rfl, rfl, rfl, by decide +kernel⟩
theorem ff_Mo_41 : FTf R_Mo 12 41 (.array .boolean) := ⟨R_Mo, F_Mo, N_Mo, rfl, rfl, rfl, by decide +kernel⟩
theorem ff_Mo_42 : FTf R_Mo 12 42 (.array .int) := ⟨R_Mo, F_Mo, N_Mo, rfl, rfl, rfl, by decide +kernel⟩
theorem ff_Mo_43 : FTf R_Mo 12 43 (.array .int) := ⟨R_Mo, F_Mo, N_Mo, rfl, rfl, rfl, by decide +kernel⟩
theorem ks_9216 : (Int16.ofInt 9216).toInt32 = 9216 := by decide
theorem ff_Mo_44 : FTf R_Mo 12 44 (.array .boolean) := ⟨R_Mo, F_Mo, N_Mo, rfl, rfl, rfl, by decide +kernel⟩
theorem ff_Mo_45 : FTf R_Mo 12 45 (.array .int) := ⟨R_Mo, F_Mo, N_Mo, rfl, rfl, rfl, by decide +kernel⟩
theorem ff_Mo_46 : FTf R_Mo 12 46 (.array .int) := ⟨R_Mo, F_Mo, N_Mo, rfl, rfl, rfl, by decide +kernel⟩
theorem ff_Mo_48 : FTf R_Mo 12 48 (.array .int) := ⟨R_Mo, F_Mo, N_Mo, rfl, rfl, rfl, by decide +kernel⟩
theorem d_Mo_init_0 : decode b_Mo_init 0 = .ok (.aload_n 0, 1) := by decide +kernel
theorem d_Mo_init_1 : decode b_Mo_init 1 = .ok (.invokespecial 1, 3) := by decide +kernel
theorem d_Mo_init_4 : decode b_Mo_init 4 = .ok (.aload_n 0, 1) := by decide +kernel
theorem d_Mo_init_5 : decode b_Mo_init 5 = .ok (.bipush 24, 2) := by decide +kernel
theorem d_Mo_init_7 : decode b_Mo_init 7 = .ok (.newarray .int, 2) := by decide +kernel
theorem d_Mo_init_9 : decode b_Mo_init 9 = .ok (.putfield 7, 3) := by decide +kernel
theorem d_Mo_init_12 : decode b_Mo_init 12 = .ok (.aload_n 0, 1) := by decide +kernel
theorem d_Mo_init_13 : decode b_Mo_init 13 = .ok (.bipush 96, 2) := by decide +kernel
theorem d_Mo_init_15 : decode b_Mo_init 15 = .ok (.newarray .int, 2) := by decide +kernel
theorem d_Mo_init_17 : decode b_Mo_init 17 = .ok (.putfield 13, 3) := by decide +kernel
theorem d_Mo_init_20 : decode b_Mo_init 20 = .ok (.aload_n 0, 1) := by decide +kernel
theorem d_Mo_init_21 : decode b_Mo_init 21 = .ok (.bipush 96, 2) := by decide +kernel
theorem d_Mo_init_23 : decode b_Mo_init 23 = .ok (.newarray .int, 2) := by decide +kernel
theorem d_Mo_init_25 : decode b_Mo_init 25 = .ok (.putfield 16, 3) := by decide +kernel
theorem d_Mo_init_28 : decode b_Mo_init 28 = .ok (.aload_n 0, 1) := by decide +kernel
theorem d_Mo_init_29 : decode b_Mo_init 29 = .ok (.bipush 96, 2) := by decide +kernel
theorem d_Mo_init_31 : decode b_Mo_init 31 = .ok (.newarray .int, 2) := by decide +kernel
theorem d_Mo_init_33 : decode b_Mo_init 33 = .ok (.putfield 19, 3) := by decide +kernel
theorem d_Mo_init_36 : decode b_Mo_init 36 = .ok (.aload_n 0, 1) := by decide +kernel
theorem d_Mo_init_37 : decode b_Mo_init 37 = .ok (.bipush 96, 2) := by decide +kernel
theorem d_Mo_init_39 : decode b_Mo_init 39 = .ok (.newarray .int, 2) := by decide +kernel
theorem d_Mo_init_41 : decode b_Mo_init 41 = .ok (.putfield 22, 3) := by decide +kernel
theorem d_Mo_init_44 : decode b_Mo_init 44 = .ok (.aload_n 0, 1) := by decide +kernel
theorem d_Mo_init_45 : decode b_Mo_init 45 = .ok (.bipush 96, 2) := by decide +kernel
theorem d_Mo_init_47 : decode b_Mo_init 47 = .ok (.newarray .int, 2) := by decide +kernel
theorem d_Mo_init_49 : decode b_Mo_init 49 = .ok (.putfield 25, 3) := by decide +kernel
theorem d_Mo_init_52 : decode b_Mo_init 52 = .ok (.aload_n 0, 1) := by decide +kernel
theorem d_Mo_init_53 : decode b_Mo_init 53 = .ok (.bipush 96, 2) := by decide +kernel
theorem d_Mo_init_55 : decode b_Mo_init 55 = .ok (.newarray .boolean, 2) := by decide +kernel
theorem d_Mo_init_57 : decode b_Mo_init 57 = .ok (.putfield 28, 3) := by decide +kernel
theorem d_Mo_init_60 : decode b_Mo_init 60 = .ok (.aload_n 0, 1) := by decide +kernel
theorem d_Mo_init_61 : decode b_Mo_init 61 = .ok (.ldc 32, 2) := by decide +kernel
theorem d_Mo_init_63 : decode b_Mo_init 63 = .ok (.newarray .int, 2) := by decide +kernel
theorem d_Mo_init_65 : decode b_Mo_init 65 = .ok (.putfield 33, 3) := by decide +kernel
theorem d_Mo_init_68 : decode b_Mo_init 68 = .ok (.aload_n 0, 1) := by decide +kernel
theorem d_Mo_init_69 : decode b_Mo_init 69 = .ok (.sipush 400, 3) := by decide +kernel
theorem d_Mo_init_72 : decode b_Mo_init 72 = .ok (.newarray .int, 2) := by decide +kernel
theorem d_Mo_init_74 : decode b_Mo_init 74 = .ok (.putfield 36, 3) := by decide +kernel
theorem d_Mo_init_77 : decode b_Mo_init 77 = .ok (.aload_n 0, 1) := by decide +kernel
theorem d_Mo_init_78 : decode b_Mo_init 78 = .ok (.sipush 400, 3) := by decide +kernel
theorem d_Mo_init_81 : decode b_Mo_init 81 = .ok (.newarray .int, 2) := by decide +kernel
theorem d_Mo_init_83 : decode b_Mo_init 83 = .ok (.putfield 39, 3) := by decide +kernel
theorem d_Mo_init_86 : decode b_Mo_init 86 = .ok (.aload_n 0, 1) := by decide +kernel
theorem d_Mo_init_87 : decode b_Mo_init 87 = .ok (.sipush 400, 3) := by decide +kernel
theorem d_Mo_init_90 : decode b_Mo_init 90 = .ok (.newarray .int, 2) := by decide +kernel
theorem d_Mo_init_92 : decode b_Mo_init 92 = .ok (.putfield 42, 3) := by decide +kernel
theorem d_Mo_init_95 : decode b_Mo_init 95 = .ok (.aload_n 0, 1) := by decide +kernel
theorem d_Mo_init_96 : decode b_Mo_init 96 = .ok (.sipush 400, 3) := by decide +kernel
theorem d_Mo_init_99 : decode b_Mo_init 99 = .ok (.newarray .int, 2) := by decide +kernel
theorem d_Mo_init_101 : decode b_Mo_init 101 = .ok (.putfield 45, 3) := by decide +kernel
theorem d_Mo_init_104 : decode b_Mo_init 104 = .ok (.aload_n 0, 1) := by decide +kernel
theorem d_Mo_init_105 : decode b_Mo_init 105 = .ok (.sipush 400, 3) := by decide +kernel
theorem d_Mo_init_108 : decode b_Mo_init 108 = .ok (.newarray .int, 2) := by decide +kernel
theorem d_Mo_init_110 : decode b_Mo_init 110 = .ok (.putfield 48, 3) := by decide +kernel
theorem d_Mo_init_113 : decode b_Mo_init 113 = .ok (.aload_n 0, 1) := by decide +kernel
theorem d_Mo_init_114 : decode b_Mo_init 114 = .ok (.sipush 400, 3) := by decide +kernel
theorem d_Mo_init_117 : decode b_Mo_init 117 = .ok (.newarray .int, 2) := by decide +kernel
theorem d_Mo_init_119 : decode b_Mo_init 119 = .ok (.putfield 51, 3) := by decide +kernel
theorem d_Mo_init_122 : decode b_Mo_init 122 = .ok (.aload_n 0, 1) := by decide +kernel
theorem d_Mo_init_123 : decode b_Mo_init 123 = .ok (.sipush 600, 3) := by decide +kernel
theorem d_Mo_init_126 : decode b_Mo_init 126 = .ok (.newarray .int, 2) := by decide +kernel
theorem d_Mo_init_128 : decode b_Mo_init 128 = .ok (.putfield 54, 3) := by decide +kernel
theorem d_Mo_init_131 : decode b_Mo_init 131 = .ok (.aload_n 0, 1) := by decide +kernel
theorem d_Mo_init_132 : decode b_Mo_init 132 = .ok (.sipush 600, 3) := by decide +kernel
theorem d_Mo_init_135 : decode b_Mo_init 135 = .ok (.newarray .int, 2) := by decide +kernel
theorem d_Mo_init_137 : decode b_Mo_init 137 = .ok (.putfield 57, 3) := by decide +kernel
theorem d_Mo_init_140 : decode b_Mo_init 140 = .ok (.aload_n 0, 1) := by decide +kernel
theorem d_Mo_init_141 : decode b_Mo_init 141 = .ok (.sipush 600, 3) := by decide +kernel
theorem d_Mo_init_144 : decode b_Mo_init 144 = .ok (.newarray .int, 2) := by decide +kernel
theorem d_Mo_init_146 : decode b_Mo_init 146 = .ok (.putfield 60, 3) := by decide +kernel
theorem d_Mo_init_149 : decode b_Mo_init 149 = .ok (.aload_n 0, 1) := by decide +kernel
theorem d_Mo_init_150 : decode b_Mo_init 150 = .ok (.sipush 600, 3) := by decide +kernel
theorem d_Mo_init_153 : decode b_Mo_init 153 = .ok (.newarray .int, 2) := by decide +kernel
theorem d_Mo_init_155 : decode b_Mo_init 155 = .ok (.putfield 63, 3) := by decide +kernel
theorem d_Mo_init_158 : decode b_Mo_init 158 = .ok (.aload_n 0, 1) := by decide +kernel
theorem d_Mo_init_159 : decode b_Mo_init 159 = .ok (.sipush 600, 3) := by decide +kernel
theorem d_Mo_init_162 : decode b_Mo_init 162 = .ok (.newarray .int, 2) := by decide +kernel
theorem d_Mo_init_164 : decode b_Mo_init 164 = .ok (.putfield 66, 3) := by decide +kernel
theorem d_Mo_init_167 : decode b_Mo_init 167 = .ok (.aload_n 0, 1) := by decide +kernel
theorem d_Mo_init_168 : decode b_Mo_init 168 = .ok (.iconst (-1), 1) := by decide +kernel
theorem d_Mo_init_169 : decode b_Mo_init 169 = .ok (.putfield 69, 3) := by decide +kernel
theorem d_Mo_init_172 : decode b_Mo_init 172 = .ok (.aload_n 0, 1) := by decide +kernel
theorem d_Mo_init_173 : decode b_Mo_init 173 = .ok (.iconst (-1), 1) := by decide +kernel
theorem d_Mo_init_174 : decode b_Mo_init 174 = .ok (.putfield 73, 3) := by decide +kernel
theorem d_Mo_init_177 : decode b_Mo_init 177 = .ok (.aload_n 0, 1) := by decide +kernel
theorem d_Mo_init_178 : decode b_Mo_init 178 = .ok (.iconst (-1), 1) := by decide +kernel
theorem d_Mo_init_179 : decode b_Mo_init 179 = .ok (.putfield 76, 3) := by decide +kernel
theorem d_Mo_init_182 : decode b_Mo_init 182 = .ok (.aload_n 0, 1) := by decide +kernel
theorem d_Mo_init_183 : decode b_Mo_init 183 = .ok (.bipush 24, 2) := by decide +kernel
theorem d_Mo_init_185 : decode b_Mo_init 185 = .ok (.newarray .boolean, 2) := by decide +kernel
theorem d_Mo_init_187 : decode b_Mo_init 187 = .ok (.putfield 79, 3) := by decide +kernel
theorem d_Mo_init_190 : decode b_Mo_init 190 = .ok (.aload_n 0, 1) := by decide +kernel
theorem d_Mo_init_191 : decode b_Mo_init 191 = .ok (.sipush 200, 3) := by decide +kernel
theorem d_Mo_init_194 : decode b_Mo_init 194 = .ok (.newarray .int, 2) := by decide +kernel
theorem d_Mo_init_196 : decode b_Mo_init 196 = .ok (.putfield 82, 3) := by decide +kernel
theorem d_Mo_init_199 : decode b_Mo_init 199 = .ok (.aload_n 0, 1) := by decide +kernel
theorem d_Mo_init_200 : decode b_Mo_init 200 = .ok (.sipush 200, 3) := by decide +kernel
theorem d_Mo_init_203 : decode b_Mo_init 203 = .ok (.newarray .int, 2) := by decide +kernel
theorem d_Mo_init_205 : decode b_Mo_init 205 = .ok (.putfield 85, 3) := by decide +kernel
theorem d_Mo_init_208 : decode b_Mo_init 208 = .ok (.aload_n 0, 1) := by decide +kernel
theorem d_Mo_init_209 : decode b_Mo_init 209 = .ok (.sipush 200, 3) := by decide +kernel
theorem d_Mo_init_212 : decode b_Mo_init 212 = .ok (.newarray .boolean, 2) := by decide +kernel
theorem d_Mo_init_214 : decode b_Mo_init 214 = .ok (.putfield 88, 3) := by decide +kernel
theorem d_Mo_init_217 : decode b_Mo_init 217 = .ok (.aload_n 0, 1) := by decide +kernel
theorem d_Mo_init_218 : decode b_Mo_init 218 = .ok (.sipush 200, 3) := by decide +kernel
theorem d_Mo_init_221 : decode b_Mo_init 221 = .ok (.newarray .int, 2) := by decide +kernel
theorem d_Mo_init_223 : decode b_Mo_init 223 = .ok (.putfield 91, 3) := by decide +kernel
theorem d_Mo_init_226 : decode b_Mo_init 226 = .ok (.aload_n 0, 1) := by decide +kernel
theorem d_Mo_init_227 : decode b_Mo_init 227 = .ok (.bipush 96, 2) := by decide +kernel
theorem d_Mo_init_229 : decode b_Mo_init 229 = .ok (.newarray .boolean, 2) := by decide +kernel
theorem d_Mo_init_231 : decode b_Mo_init 231 = .ok (.putfield 94, 3) := by decide +kernel
theorem d_Mo_init_234 : decode b_Mo_init 234 = .ok (.aload_n 0, 1) := by decide +kernel
theorem d_Mo_init_235 : decode b_Mo_init 235 = .ok (.bipush 96, 2) := by decide +kernel
theorem d_Mo_init_237 : decode b_Mo_init 237 = .ok (.newarray .int, 2) := by decide +kernel
theorem d_Mo_init_239 : decode b_Mo_init 239 = .ok (.putfield 97, 3) := by decide +kernel
theorem d_Mo_init_242 : decode b_Mo_init 242 = .ok (.aload_n 0, 1) := by decide +kernel
theorem d_Mo_init_243 : decode b_Mo_init 243 = .ok (.bipush 96, 2) := by decide +kernel
theorem d_Mo_init_245 : decode b_Mo_init 245 = .ok (.newarray .int, 2) := by decide +kernel
theorem d_Mo_init_247 : decode b_Mo_init 247 = .ok (.putfield 100, 3) := by decide +kernel
theorem d_Mo_init_250 : decode b_Mo_init 250 = .ok (.aload_n 0, 1) := by decide +kernel
theorem d_Mo_init_251 : decode b_Mo_init 251 = .ok (.sipush 9216, 3) := by decide +kernel
theorem d_Mo_init_254 : decode b_Mo_init 254 = .ok (.newarray .boolean, 2) := by decide +kernel
theorem d_Mo_init_256 : decode b_Mo_init 256 = .ok (.putfield 103, 3) := by decide +kernel
theorem d_Mo_init_259 : decode b_Mo_init 259 = .ok (.aload_n 0, 1) := by decide +kernel
theorem d_Mo_init_260 : decode b_Mo_init 260 = .ok (.ldc 32, 2) := by decide +kernel
theorem d_Mo_init_262 : decode b_Mo_init 262 = .ok (.newarray .int, 2) := by decide +kernel
theorem d_Mo_init_264 : decode b_Mo_init 264 = .ok (.putfield 106, 3) := by decide +kernel
theorem d_Mo_init_267 : decode b_Mo_init 267 = .ok (.aload_n 0, 1) := by decide +kernel
theorem d_Mo_init_268 : decode b_Mo_init 268 = .ok (.sipush 600, 3) := by decide +kernel
theorem d_Mo_init_271 : decode b_Mo_init 271 = .ok (.newarray .int, 2) := by decide +kernel
theorem d_Mo_init_273 : decode b_Mo_init 273 = .ok (.putfield 109, 3) := by decide +kernel
theorem d_Mo_init_276 : decode b_Mo_init 276 = .ok (.aload_n 0, 1) := by decide +kernel
theorem d_Mo_init_277 : decode b_Mo_init 277 = .ok (.bipush 32, 2) := by decide +kernel
theorem d_Mo_init_279 : decode b_Mo_init 279 = .ok (.newarray .int, 2) := by decide +kernel
theorem d_Mo_init_281 : decode b_Mo_init 281 = .ok (.putfield 112, 3) := by decide +kernel
theorem d_Mo_init_284 : decode b_Mo_init 284 = .ok (.return_, 1) := by decide +kernel
/-- the reference's state at first -/
def V0M : Sto := fun k => if k = 0 then (fun j => if j = 26 then -1 else if j = 31 then -1 else if j = 32 then -1 else 0) else fun _ => 0
