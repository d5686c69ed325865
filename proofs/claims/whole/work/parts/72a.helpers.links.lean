/-- what a helper leaves: the graph, its row of words perhaps elsewhere, and the long that it wrote -/
def HB (cI cZ cJ : ClassId) (a : Nat → Nat) (o : Nat) (V' : Sto) (φ : Int64 → Prop) : va_W → Prop := fun w => ∃ (a1 : Nat → Nat) (f1 : Nat → Int64), a1 0 = a 0 ∧ φ (f1 0) ∧ w = wsF cI cZ a1 V' 0 shpC ++ [outC cJ o f1]
/-- how a call ends: with the answer r (k = 0), or with one of cs's exceptions, told as k -/
def HO (cs : List (Nat × Int32)) (x : RTT) (V : Sto) (k r : Int32) (V' : Sto) : Prop := (x = some (.inl r, V') ∧ k = 0) ∨ ∃ e, (e, k) ∈ cs ∧ x = some (.inr e, V) ∧ V' = V ∧ k ≠ 0
def HX (l : Launch) (D : va_G) (cI cZ cJ : ClassId) (y : MethodName) (cc : ByteArray) (maxL : Nat) (hs : List (Nat × Nat × Nat × Nat)) (av : List Value) (ws : va_W) (k : Int32) (B : va_W → Prop) (g : Nat) : Prop :=
  ∃ rm' : Room, (rm'.frames ≤ 100 ∧ rm'.locals ≤ 10000 ∧ rm'.cells ≤ 1 ∧ rm'.slots ≤ 6 + g) ∧ HM l D cI cZ cJ y cc maxL hs rm' av ws k B
theorem gcA_le {V : Sto} {p2 p3 : Int32} : gcA V p2 p3 ≤ 1 := by
  unfold gcA gc
  split
  · omega
  · split <;> omega
abbrev b_Lw_unit : ByteArray := method_3_code
def y_Lw_unit : MethodName := ⟨"LinkYardLaw", "unit", "(LLinkYard;I[J)I"⟩
abbrev hs_Lw_unit : List (Nat × Nat × Nat × Nat) := [(0, 9, 12, 13), (0, 9, 15, 15)]
abbrev rm_Lw_unit : Room := { frames := rm_Ly_unit.frames + 1, cells := 0, slots := 0, locals := 8 + (2 + 11) + rm_Ly_unit.locals }
abbrev rmt_Lw_unit : Room := { frames := rmt_Ly_unit.frames + 1, cells := 1, slots := 6, locals := 8 + (2 + 11) + rmt_Ly_unit.locals }
abbrev b_Lw_section : ByteArray := method_4_code
def y_Lw_section : MethodName := ⟨"LinkYardLaw", "section", "(LLinkYard;IIII[J)I"⟩
abbrev hs_Lw_section : List (Nat × Nat × Nat × Nat) := [(0, 14, 17, 13), (0, 14, 21, 15)]
abbrev rm_Lw_section (c s : Nat) : Room := { frames := (rm_Ly_section c s).frames + 1, cells := c, slots := s, locals := 8 + (5 + 11) + (rm_Ly_section c s).locals }
abbrev rmt_Lw_section : Room := { frames := rmt_Ly_section.frames + 1, cells := 1, slots := 6, locals := 8 + (5 + 11) + rmt_Ly_section.locals }
abbrev b_Lw_word : ByteArray := method_5_code
def y_Lw_word : MethodName := ⟨"LinkYardLaw", "word", "(LLinkYard;III)I"⟩
abbrev hs_Lw_word : List (Nat × Nat × Nat × Nat) := [(0, 7, 10, 13)]
abbrev rm_Lw_word : Room := { frames := rm_Ly_word.frames + 1, cells := 0, slots := 0, locals := 8 + (4 + 11) + rm_Ly_word.locals }
abbrev rmt_Lw_word : Room := { frames := rmt_Ly_word.frames + 1, cells := 1, slots := 6, locals := 8 + (4 + 11) + rmt_Ly_word.locals }
abbrev b_Lw_symbol : ByteArray := method_6_code
def y_Lw_symbol : MethodName := ⟨"LinkYardLaw", "symbol", "(LLinkYard;IIII[J)I"⟩
abbrev hs_Lw_symbol : List (Nat × Nat × Nat × Nat) := [(0, 14, 17, 13), (0, 14, 21, 15)]
abbrev rm_Lw_symbol : Room := { frames := rm_Ly_symbol.frames + 1, cells := 0, slots := 0, locals := 8 + (7 + 11) + rm_Ly_symbol.locals }
abbrev rmt_Lw_symbol : Room := { frames := rmt_Ly_symbol.frames + 1, cells := 1, slots := 6, locals := 8 + (7 + 11) + rmt_Ly_symbol.locals }
abbrev b_Lw_other : ByteArray := method_7_code
def y_Lw_other : MethodName := ⟨"LinkYardLaw", "other", "(LLinkYard;IIIII[J)I"⟩
abbrev hs_Lw_other : List (Nat × Nat × Nat × Nat) := [(0, 16, 19, 13), (0, 16, 23, 15)]
abbrev rm_Lw_other : Room := { frames := rm_Ly_other.frames + 1, cells := 0, slots := 0, locals := 8 + (7 + 11) + rm_Ly_other.locals }
abbrev rmt_Lw_other : Room := { frames := rmt_Ly_other.frames + 1, cells := 1, slots := 6, locals := 8 + (7 + 11) + rmt_Ly_other.locals }
abbrev b_Lw_relocation : ByteArray := method_8_code
def y_Lw_relocation : MethodName := ⟨"LinkYardLaw", "relocation", "(LLinkYard;IIIII[J)I"⟩
abbrev hs_Lw_relocation : List (Nat × Nat × Nat × Nat) := [(0, 16, 19, 13), (0, 16, 23, 15)]
abbrev rm_Lw_relocation : Room := { frames := rm_Ly_relocation.frames + 1, cells := 0, slots := 0, locals := 8 + (6 + 11) + rm_Ly_relocation.locals }
abbrev rmt_Lw_relocation : Room := { frames := rmt_Ly_relocation.frames + 1, cells := 1, slots := 6, locals := 8 + (6 + 11) + rmt_Ly_relocation.locals }
abbrev b_Lw_entry : ByteArray := method_9_code
def y_Lw_entry : MethodName := ⟨"LinkYardLaw", "entry", "(LLinkYard;I)I"⟩
abbrev hs_Lw_entry : List (Nat × Nat × Nat × Nat) := [(0, 5, 8, 13)]
abbrev rm_Lw_entry : Room := { frames := rm_Ly_entry.frames + 1, cells := 0, slots := 0, locals := 8 + (2 + 11) + rm_Ly_entry.locals }
abbrev rmt_Lw_entry : Room := { frames := rmt_Ly_entry.frames + 1, cells := 1, slots := 6, locals := 8 + (2 + 11) + rmt_Ly_entry.locals }
abbrev b_Lw_keep : ByteArray := method_10_code
def y_Lw_keep : MethodName := ⟨"LinkYardLaw", "keep", "(LLinkYard;IZ)I"⟩
abbrev hs_Lw_keep : List (Nat × Nat × Nat × Nat) := [(0, 6, 9, 13)]
abbrev rm_Lw_keep : Room := { frames := rm_Ly_keep.frames + 1, cells := 0, slots := 0, locals := 8 + (3 + 11) + rm_Ly_keep.locals }
abbrev rmt_Lw_keep : Room := { frames := rmt_Ly_keep.frames + 1, cells := 1, slots := 6, locals := 8 + (3 + 11) + rmt_Ly_keep.locals }
abbrev b_Lw_link : ByteArray := method_11_code
def y_Lw_link : MethodName := ⟨"LinkYardLaw", "link", "(LLinkYard;I[J)I"⟩
abbrev hs_Lw_link : List (Nat × Nat × Nat × Nat) := [(0, 9, 12, 13)]
abbrev rm_Lw_link : Room := { frames := rm_Ly_link.frames + 1, cells := 0, slots := 0, locals := 8 + (2 + 11) + rm_Ly_link.locals }
abbrev rmt_Lw_link : Room := { frames := rmt_Ly_link.frames + 1, cells := 1, slots := 6, locals := 8 + (2 + 11) + rmt_Ly_link.locals }
abbrev b_Lw_fault : ByteArray := method_12_code
def y_Lw_fault : MethodName := ⟨"LinkYardLaw", "fault", "(LLinkYard;I[J)I"⟩
abbrev hs_Lw_fault : List (Nat × Nat × Nat × Nat) := [(0, 9, 12, 13)]
abbrev rm_Lw_fault : Room := { frames := rm_Ly_fault.frames + 1, cells := 0, slots := 0, locals := 8 + (2 + 11) + rm_Ly_fault.locals }
abbrev rmt_Lw_fault : Room := { frames := rmt_Ly_fault.frames + 1, cells := 1, slots := 6, locals := 8 + (2 + 11) + rmt_Ly_fault.locals }
abbrev b_Lw_isIn : ByteArray := method_13_code
def y_Lw_isIn : MethodName := ⟨"LinkYardLaw", "isIn", "(LLinkYard;I[J)I"⟩
abbrev hs_Lw_isIn : List (Nat × Nat × Nat × Nat) := [(0, 16, 19, 53), (0, 16, 22, 13)]
abbrev rm_Lw_isIn : Room := { frames := rm_Ly_isIn.frames + 1, cells := 0, slots := 0, locals := 8 + (2 + 11) + rm_Ly_isIn.locals }
abbrev rmt_Lw_isIn : Room := { frames := rmt_Ly_isIn.frames + 1, cells := 1, slots := 6, locals := 8 + (2 + 11) + rmt_Ly_isIn.locals }
abbrev b_Lw_address : ByteArray := method_14_code
def y_Lw_address : MethodName := ⟨"LinkYardLaw", "address", "(LLinkYard;I[J)I"⟩
abbrev hs_Lw_address : List (Nat × Nat × Nat × Nat) := [(0, 9, 12, 53), (0, 9, 15, 13)]
abbrev rm_Lw_address : Room := { frames := rm_Ly_address.frames + 1, cells := 0, slots := 0, locals := 8 + (2 + 11) + rm_Ly_address.locals }
abbrev rmt_Lw_address : Room := { frames := rmt_Ly_address.frames + 1, cells := 1, slots := 6, locals := 8 + (2 + 11) + rmt_Ly_address.locals }
abbrev b_Lw_like : ByteArray := method_15_code
def y_Lw_like : MethodName := ⟨"LinkYardLaw", "like", "(LLinkYard;I[J)I"⟩
abbrev hs_Lw_like : List (Nat × Nat × Nat × Nat) := [(0, 9, 12, 53), (0, 9, 15, 13)]
abbrev rm_Lw_like : Room := { frames := rm_Ly_like.frames + 1, cells := 0, slots := 0, locals := 8 + (2 + 11) + rm_Ly_like.locals }
abbrev rmt_Lw_like : Room := { frames := rmt_Ly_like.frames + 1, cells := 1, slots := 6, locals := 8 + (2 + 11) + rmt_Ly_like.locals }
abbrev b_Lw_means : ByteArray := method_16_code
def y_Lw_means : MethodName := ⟨"LinkYardLaw", "means", "(LLinkYard;II[J)I"⟩
abbrev hs_Lw_means : List (Nat × Nat × Nat × Nat) := [(0, 10, 13, 53), (0, 10, 17, 13)]
abbrev rm_Lw_means : Room := { frames := rm_Ly_means.frames + 1, cells := 0, slots := 0, locals := 8 + (3 + 11) + rm_Ly_means.locals }
abbrev rmt_Lw_means : Room := { frames := rmt_Ly_means.frames + 1, cells := 1, slots := 6, locals := 8 + (3 + 11) + rmt_Ly_means.locals }
abbrev b_Lw_common : ByteArray := method_17_code
def y_Lw_common : MethodName := ⟨"LinkYardLaw", "common", "(LLinkYard;I[J)I"⟩
abbrev hs_Lw_common : List (Nat × Nat × Nat × Nat) := [(0, 9, 12, 53), (0, 9, 15, 13)]
abbrev rm_Lw_common : Room := { frames := rm_Ly_common.frames + 1, cells := 0, slots := 0, locals := 8 + (2 + 11) + rm_Ly_common.locals }
abbrev rmt_Lw_common : Room := { frames := rmt_Ly_common.frames + 1, cells := 1, slots := 6, locals := 8 + (2 + 11) + rmt_Ly_common.locals }
abbrev b_Lw_at : ByteArray := method_18_code
def y_Lw_at : MethodName := ⟨"LinkYardLaw", "at", "(LLinkYard;I[J)I"⟩
abbrev hs_Lw_at : List (Nat × Nat × Nat × Nat) := [(0, 9, 12, 53), (0, 9, 15, 71)]
abbrev rm_Lw_at : Room := { frames := rm_Ly_at.frames + 1, cells := 0, slots := 0, locals := 8 + (2 + 11) + rm_Ly_at.locals }
abbrev rmt_Lw_at : Room := { frames := rmt_Ly_at.frames + 1, cells := 1, slots := 6, locals := 8 + (2 + 11) + rmt_Ly_at.locals }
abbrev b_Lw_about : ByteArray := method_19_code
def y_Lw_about : MethodName := ⟨"LinkYardLaw", "about", "(LLinkYard;I[J)I"⟩
abbrev hs_Lw_about : List (Nat × Nat × Nat × Nat) := [(0, 9, 12, 53), (0, 9, 15, 13)]
abbrev rm_Lw_about : Room := { frames := rm_Ly_about.frames + 1, cells := 0, slots := 0, locals := 8 + (2 + 11) + rm_Ly_about.locals }
abbrev rmt_Lw_about : Room := { frames := rmt_Ly_about.frames + 1, cells := 1, slots := 6, locals := 8 + (2 + 11) + rmt_Ly_about.locals }
theorem ml_LinkYardLaw_7 : MLb "LinkYardLaw" 7 y_Ly_unit b_Ly_unit 2 (some .int) 1 := ⟨(mw 618 (by decide +kernel)), (mw 615 (by decide +kernel)), (mw 83 (by decide +kernel)), by decide +kernel⟩
theorem mv_Ly_unit : MLv y_Ly_unit := ⟨(mw 616 (by decide +kernel)), (mw 617 (by decide +kernel))⟩
theorem xw_0 : Cond.castable (exn 0) (exn 0) ∈ XW := List.mem_of_getElem? (i := 0) rfl
theorem cl_Lw_13 : Cond.classLink "LinkYardLaw" 13 "java/lang/IllegalArgumentException" ∈ ALLW := (mw 613 (by decide +kernel))
theorem xw_3 : Cond.castable (exn 3) (exn 3) ∈ XW := List.mem_of_getElem? (i := 7) rfl
theorem nc_0 : (exn 3, exn 0) ∈ NCL := List.mem_of_getElem? (i := 0) rfl
theorem cl_Lw_15 : Cond.classLink "LinkYardLaw" 15 "java/lang/UnsupportedOperationException" ∈ ALLW := (mw 614 (by decide +kernel))
theorem ml_LinkYardLaw_17 : MLb "LinkYardLaw" 17 y_Ly_section b_Ly_section 5 (some .int) 4 := ⟨(mw 715 (by decide +kernel)), (mw 712 (by decide +kernel)), (mw 83 (by decide +kernel)), by decide +kernel⟩
theorem mv_Ly_section : MLv y_Ly_section := ⟨(mw 713 (by decide +kernel)), (mw 714 (by decide +kernel))⟩
theorem ml_LinkYardLaw_21 : MLb "LinkYardLaw" 21 y_Ly_word b_Ly_word 4 (none) 3 := ⟨(mw 1034 (by decide +kernel)), (mw 1031 (by decide +kernel)), (mw 83 (by decide +kernel)), by decide +kernel⟩
theorem mv_Ly_word : MLv y_Ly_word := ⟨(mw 1032 (by decide +kernel)), (mw 1033 (by decide +kernel))⟩
theorem ml_LinkYardLaw_25 : MLb "LinkYardLaw" 25 y_Ly_symbol b_Ly_symbol 7 (some .int) 4 := ⟨(mw 1054 (by decide +kernel)), (mw 1051 (by decide +kernel)), (mw 83 (by decide +kernel)), by decide +kernel⟩
theorem mv_Ly_symbol : MLv y_Ly_symbol := ⟨(mw 1052 (by decide +kernel)), (mw 1053 (by decide +kernel))⟩
theorem ml_LinkYardLaw_28 : MLb "LinkYardLaw" 28 y_Ly_other b_Ly_other 7 (some .int) 5 := ⟨(mw 1081 (by decide +kernel)), (mw 1078 (by decide +kernel)), (mw 83 (by decide +kernel)), by decide +kernel⟩
theorem mv_Ly_other : MLv y_Ly_other := ⟨(mw 1079 (by decide +kernel)), (mw 1080 (by decide +kernel))⟩
theorem ml_LinkYardLaw_32 : MLb "LinkYardLaw" 32 y_Ly_relocation b_Ly_relocation 6 (some .int) 5 := ⟨(mw 1095 (by decide +kernel)), (mw 1092 (by decide +kernel)), (mw 83 (by decide +kernel)), by decide +kernel⟩
theorem mv_Ly_relocation : MLv y_Ly_relocation := ⟨(mw 1093 (by decide +kernel)), (mw 1094 (by decide +kernel))⟩
theorem ml_LinkYardLaw_35 : MLb "LinkYardLaw" 35 y_Ly_entry b_Ly_entry 2 (none) 1 := ⟨(mw 1113 (by decide +kernel)), (mw 1110 (by decide +kernel)), (mw 83 (by decide +kernel)), by decide +kernel⟩
theorem mv_Ly_entry : MLv y_Ly_entry := ⟨(mw 1111 (by decide +kernel)), (mw 1112 (by decide +kernel))⟩
theorem ml_LinkYardLaw_39 : MLb "LinkYardLaw" 39 y_Ly_keep b_Ly_keep 3 (none) 2 := ⟨(mw 1121 (by decide +kernel)), (mw 1118 (by decide +kernel)), (mw 83 (by decide +kernel)), by decide +kernel⟩
theorem mv_Ly_keep : MLv y_Ly_keep := ⟨(mw 1119 (by decide +kernel)), (mw 1120 (by decide +kernel))⟩
theorem ml_LinkYardLaw_43 : MLb "LinkYardLaw" 43 y_Ly_link b_Ly_link 2 (some .int) 1 := ⟨(mw 1129 (by decide +kernel)), (mw 1126 (by decide +kernel)), (mw 83 (by decide +kernel)), by decide +kernel⟩
theorem mv_Ly_link : MLv y_Ly_link := ⟨(mw 1127 (by decide +kernel)), (mw 1128 (by decide +kernel))⟩
theorem ml_LinkYardLaw_46 : MLb "LinkYardLaw" 46 y_Ly_fault b_Ly_fault 2 (some .int) 1 := ⟨(mw 1412 (by decide +kernel)), (mw 1409 (by decide +kernel)), (mw 83 (by decide +kernel)), by decide +kernel⟩
theorem mv_Ly_fault : MLv y_Ly_fault := ⟨(mw 1410 (by decide +kernel)), (mw 1411 (by decide +kernel))⟩
theorem ml_LinkYardLaw_49 : MLb "LinkYardLaw" 49 y_Ly_isIn b_Ly_isIn 2 (some .boolean) 1 := ⟨(mw 1421 (by decide +kernel)), (mw 1418 (by decide +kernel)), (mw 83 (by decide +kernel)), by decide +kernel⟩
theorem mv_Ly_isIn : MLv y_Ly_isIn := ⟨(mw 1419 (by decide +kernel)), (mw 1420 (by decide +kernel))⟩
theorem xw_1 : Cond.castable (exn 1) (exn 1) ∈ XW := List.mem_of_getElem? (i := 10) rfl
theorem cl_Lw_53 : Cond.classLink "LinkYardLaw" 53 "java/lang/IllegalStateException" ∈ ALLW := (mw 1417 (by decide +kernel))
theorem nc_1 : (exn 0, exn 1) ∈ NCL := List.mem_of_getElem? (i := 1) rfl
theorem ml_LinkYardLaw_55 : MLb "LinkYardLaw" 55 y_Ly_address b_Ly_address 2 (some .int) 1 := ⟨(mw 1449 (by decide +kernel)), (mw 1446 (by decide +kernel)), (mw 83 (by decide +kernel)), by decide +kernel⟩
theorem mv_Ly_address : MLv y_Ly_address := ⟨(mw 1447 (by decide +kernel)), (mw 1448 (by decide +kernel))⟩
theorem ml_LinkYardLaw_58 : MLb "LinkYardLaw" 58 y_Ly_like b_Ly_like 2 (some .int) 1 := ⟨(mw 1460 (by decide +kernel)), (mw 1457 (by decide +kernel)), (mw 83 (by decide +kernel)), by decide +kernel⟩
theorem mv_Ly_like : MLv y_Ly_like := ⟨(mw 1458 (by decide +kernel)), (mw 1459 (by decide +kernel))⟩
theorem ml_LinkYardLaw_61 : MLb "LinkYardLaw" 61 y_Ly_means b_Ly_means 3 (some .int) 2 := ⟨(mw 1467 (by decide +kernel)), (mw 1464 (by decide +kernel)), (mw 83 (by decide +kernel)), by decide +kernel⟩
theorem mv_Ly_means : MLv y_Ly_means := ⟨(mw 1465 (by decide +kernel)), (mw 1466 (by decide +kernel))⟩
theorem ml_LinkYardLaw_65 : MLb "LinkYardLaw" 65 y_Ly_common b_Ly_common 2 (some .int) 1 := ⟨(mw 1480 (by decide +kernel)), (mw 1477 (by decide +kernel)), (mw 83 (by decide +kernel)), by decide +kernel⟩
theorem mv_Ly_common : MLv y_Ly_common := ⟨(mw 1478 (by decide +kernel)), (mw 1479 (by decide +kernel))⟩
theorem ml_LinkYardLaw_68 : MLb "LinkYardLaw" 68 y_Ly_at b_Ly_at 2 (some .int) 1 := ⟨(mw 1488 (by decide +kernel)), (mw 1485 (by decide +kernel)), (mw 83 (by decide +kernel)), by decide +kernel⟩
theorem mv_Ly_at : MLv y_Ly_at := ⟨(mw 1486 (by decide +kernel)), (mw 1487 (by decide +kernel))⟩
theorem xw_2 : Cond.castable (exn 2) (exn 2) ∈ XW := List.mem_of_getElem? (i := 11) rfl
theorem nc_2 : (exn 2, exn 1) ∈ NCL := List.mem_of_getElem? (i := 2) rfl
theorem cl_Lw_71 : Cond.classLink "LinkYardLaw" 71 "java/lang/IndexOutOfBoundsException" ∈ ALLW := (mw 1484 (by decide +kernel))
theorem ml_LinkYardLaw_73 : MLb "LinkYardLaw" 73 y_Ly_about b_Ly_about 2 (some .int) 1 := ⟨(mw 1549 (by decide +kernel)), (mw 1546 (by decide +kernel)), (mw 83 (by decide +kernel)), by decide +kernel⟩
theorem mv_Ly_about : MLv y_Ly_about := ⟨(mw 1547 (by decide +kernel)), (mw 1548 (by decide +kernel))⟩
theorem d_Lw_unit_0 : decode b_Lw_unit 0 = .ok (.aload_n 2, 1) := by decide +kernel
theorem d_Lw_unit_1 : decode b_Lw_unit 1 = .ok (.iconst 0, 1) := by decide +kernel
theorem d_Lw_unit_2 : decode b_Lw_unit 2 = .ok (.aload_n 0, 1) := by decide +kernel
theorem d_Lw_unit_3 : decode b_Lw_unit 3 = .ok (.iload_n 1, 1) := by decide +kernel
theorem d_Lw_unit_4 : decode b_Lw_unit 4 = .ok (.invokevirtual 7, 3) := by decide +kernel
theorem d_Lw_unit_7 : decode b_Lw_unit 7 = .ok (.i2l, 1) := by decide +kernel
theorem d_Lw_unit_8 : decode b_Lw_unit 8 = .ok (.lastore, 1) := by decide +kernel
theorem d_Lw_unit_9 : decode b_Lw_unit 9 = .ok (.goto 9, 3) := by decide +kernel
theorem d_Lw_unit_12 : decode b_Lw_unit 12 = .ok (.astore_n 3, 1) := by decide +kernel
theorem d_Lw_unit_13 : decode b_Lw_unit 13 = .ok (.iconst 1, 1) := by decide +kernel
theorem d_Lw_unit_14 : decode b_Lw_unit 14 = .ok (.ireturn, 1) := by decide +kernel
theorem d_Lw_unit_15 : decode b_Lw_unit 15 = .ok (.astore_n 3, 1) := by decide +kernel
theorem d_Lw_unit_16 : decode b_Lw_unit 16 = .ok (.iconst 2, 1) := by decide +kernel
theorem d_Lw_unit_17 : decode b_Lw_unit 17 = .ok (.ireturn, 1) := by decide +kernel
theorem d_Lw_unit_18 : decode b_Lw_unit 18 = .ok (.iconst 0, 1) := by decide +kernel
theorem d_Lw_unit_19 : decode b_Lw_unit 19 = .ok (.ireturn, 1) := by decide +kernel
theorem d_Lw_section_0 : decode b_Lw_section 0 = .ok (.aload 5, 2) := by decide +kernel
theorem d_Lw_section_2 : decode b_Lw_section 2 = .ok (.iconst 0, 1) := by decide +kernel
theorem d_Lw_section_3 : decode b_Lw_section 3 = .ok (.aload_n 0, 1) := by decide +kernel
theorem d_Lw_section_4 : decode b_Lw_section 4 = .ok (.iload_n 1, 1) := by decide +kernel
theorem d_Lw_section_5 : decode b_Lw_section 5 = .ok (.iload_n 2, 1) := by decide +kernel
theorem d_Lw_section_6 : decode b_Lw_section 6 = .ok (.iload_n 3, 1) := by decide +kernel
theorem d_Lw_section_7 : decode b_Lw_section 7 = .ok (.iload 4, 2) := by decide +kernel
theorem d_Lw_section_9 : decode b_Lw_section 9 = .ok (.invokevirtual 17, 3) := by decide +kernel
theorem d_Lw_section_12 : decode b_Lw_section 12 = .ok (.i2l, 1) := by decide +kernel
theorem d_Lw_section_13 : decode b_Lw_section 13 = .ok (.lastore, 1) := by decide +kernel
theorem d_Lw_section_14 : decode b_Lw_section 14 = .ok (.goto 11, 3) := by decide +kernel
theorem d_Lw_section_17 : decode b_Lw_section 17 = .ok (.astore 6, 2) := by decide +kernel
theorem d_Lw_section_19 : decode b_Lw_section 19 = .ok (.iconst 1, 1) := by decide +kernel
theorem d_Lw_section_20 : decode b_Lw_section 20 = .ok (.ireturn, 1) := by decide +kernel
theorem d_Lw_section_21 : decode b_Lw_section 21 = .ok (.astore 6, 2) := by decide +kernel
theorem d_Lw_section_23 : decode b_Lw_section 23 = .ok (.iconst 2, 1) := by decide +kernel
theorem d_Lw_section_24 : decode b_Lw_section 24 = .ok (.ireturn, 1) := by decide +kernel
theorem d_Lw_section_25 : decode b_Lw_section 25 = .ok (.iconst 0, 1) := by decide +kernel
theorem d_Lw_section_26 : decode b_Lw_section 26 = .ok (.ireturn, 1) := by decide +kernel
theorem d_Lw_word_0 : decode b_Lw_word 0 = .ok (.aload_n 0, 1) := by decide +kernel
theorem d_Lw_word_1 : decode b_Lw_word 1 = .ok (.iload_n 1, 1) := by decide +kernel
theorem d_Lw_word_2 : decode b_Lw_word 2 = .ok (.iload_n 2, 1) := by decide +kernel
theorem d_Lw_word_3 : decode b_Lw_word 3 = .ok (.iload_n 3, 1) := by decide +kernel
theorem d_Lw_word_4 : decode b_Lw_word 4 = .ok (.invokevirtual 21, 3) := by decide +kernel
theorem d_Lw_word_7 : decode b_Lw_word 7 = .ok (.goto 7, 3) := by decide +kernel
theorem d_Lw_word_10 : decode b_Lw_word 10 = .ok (.astore 4, 2) := by decide +kernel
theorem d_Lw_word_12 : decode b_Lw_word 12 = .ok (.iconst 1, 1) := by decide +kernel
theorem d_Lw_word_13 : decode b_Lw_word 13 = .ok (.ireturn, 1) := by decide +kernel
theorem d_Lw_word_14 : decode b_Lw_word 14 = .ok (.iconst 0, 1) := by decide +kernel
theorem d_Lw_word_15 : decode b_Lw_word 15 = .ok (.ireturn, 1) := by decide +kernel
theorem d_Lw_symbol_0 : decode b_Lw_symbol 0 = .ok (.aload 5, 2) := by decide +kernel
theorem d_Lw_symbol_2 : decode b_Lw_symbol 2 = .ok (.iconst 0, 1) := by decide +kernel
theorem d_Lw_symbol_3 : decode b_Lw_symbol 3 = .ok (.aload_n 0, 1) := by decide +kernel
theorem d_Lw_symbol_4 : decode b_Lw_symbol 4 = .ok (.iload_n 1, 1) := by decide +kernel
theorem d_Lw_symbol_5 : decode b_Lw_symbol 5 = .ok (.iload_n 2, 1) := by decide +kernel
theorem d_Lw_symbol_6 : decode b_Lw_symbol 6 = .ok (.iload_n 3, 1) := by decide +kernel
theorem d_Lw_symbol_7 : decode b_Lw_symbol 7 = .ok (.iload 4, 2) := by decide +kernel
theorem d_Lw_symbol_9 : decode b_Lw_symbol 9 = .ok (.invokevirtual 25, 3) := by decide +kernel
theorem d_Lw_symbol_12 : decode b_Lw_symbol 12 = .ok (.i2l, 1) := by decide +kernel
theorem d_Lw_symbol_13 : decode b_Lw_symbol 13 = .ok (.lastore, 1) := by decide +kernel
theorem d_Lw_symbol_14 : decode b_Lw_symbol 14 = .ok (.goto 11, 3) := by decide +kernel
theorem d_Lw_symbol_17 : decode b_Lw_symbol 17 = .ok (.astore 6, 2) := by decide +kernel
theorem d_Lw_symbol_19 : decode b_Lw_symbol 19 = .ok (.iconst 1, 1) := by decide +kernel
theorem d_Lw_symbol_20 : decode b_Lw_symbol 20 = .ok (.ireturn, 1) := by decide +kernel
theorem d_Lw_symbol_21 : decode b_Lw_symbol 21 = .ok (.astore 6, 2) := by decide +kernel
theorem d_Lw_symbol_23 : decode b_Lw_symbol 23 = .ok (.iconst 2, 1) := by decide +kernel
theorem d_Lw_symbol_24 : decode b_Lw_symbol 24 = .ok (.ireturn, 1) := by decide +kernel
theorem d_Lw_symbol_25 : decode b_Lw_symbol 25 = .ok (.iconst 0, 1) := by decide +kernel
theorem d_Lw_symbol_26 : decode b_Lw_symbol 26 = .ok (.ireturn, 1) := by decide +kernel
theorem d_Lw_other_0 : decode b_Lw_other 0 = .ok (.aload 6, 2) := by decide +kernel
theorem d_Lw_other_2 : decode b_Lw_other 2 = .ok (.iconst 0, 1) := by decide +kernel
theorem d_Lw_other_3 : decode b_Lw_other 3 = .ok (.aload_n 0, 1) := by decide +kernel
theorem d_Lw_other_4 : decode b_Lw_other 4 = .ok (.iload_n 1, 1) := by decide +kernel
theorem d_Lw_other_5 : decode b_Lw_other 5 = .ok (.iload_n 2, 1) := by decide +kernel
theorem d_Lw_other_6 : decode b_Lw_other 6 = .ok (.iload_n 3, 1) := by decide +kernel
theorem d_Lw_other_7 : decode b_Lw_other 7 = .ok (.iload 4, 2) := by decide +kernel
theorem d_Lw_other_9 : decode b_Lw_other 9 = .ok (.iload 5, 2) := by decide +kernel
theorem d_Lw_other_11 : decode b_Lw_other 11 = .ok (.invokevirtual 28, 3) := by decide +kernel
theorem d_Lw_other_14 : decode b_Lw_other 14 = .ok (.i2l, 1) := by decide +kernel
theorem d_Lw_other_15 : decode b_Lw_other 15 = .ok (.lastore, 1) := by decide +kernel
theorem d_Lw_other_16 : decode b_Lw_other 16 = .ok (.goto 11, 3) := by decide +kernel
theorem d_Lw_other_19 : decode b_Lw_other 19 = .ok (.astore 7, 2) := by decide +kernel
theorem d_Lw_other_21 : decode b_Lw_other 21 = .ok (.iconst 1, 1) := by decide +kernel
theorem d_Lw_other_22 : decode b_Lw_other 22 = .ok (.ireturn, 1) := by decide +kernel
theorem d_Lw_other_23 : decode b_Lw_other 23 = .ok (.astore 7, 2) := by decide +kernel
theorem d_Lw_other_25 : decode b_Lw_other 25 = .ok (.iconst 2, 1) := by decide +kernel
theorem d_Lw_other_26 : decode b_Lw_other 26 = .ok (.ireturn, 1) := by decide +kernel
theorem d_Lw_other_27 : decode b_Lw_other 27 = .ok (.iconst 0, 1) := by decide +kernel
theorem d_Lw_other_28 : decode b_Lw_other 28 = .ok (.ireturn, 1) := by decide +kernel
theorem d_Lw_relocation_0 : decode b_Lw_relocation 0 = .ok (.aload 6, 2) := by decide +kernel
theorem d_Lw_relocation_2 : decode b_Lw_relocation 2 = .ok (.iconst 0, 1) := by decide +kernel
theorem d_Lw_relocation_3 : decode b_Lw_relocation 3 = .ok (.aload_n 0, 1) := by decide +kernel
theorem d_Lw_relocation_4 : decode b_Lw_relocation 4 = .ok (.iload_n 1, 1) := by decide +kernel
theorem d_Lw_relocation_5 : decode b_Lw_relocation 5 = .ok (.iload_n 2, 1) := by decide +kernel
theorem d_Lw_relocation_6 : decode b_Lw_relocation 6 = .ok (.iload_n 3, 1) := by decide +kernel
theorem d_Lw_relocation_7 : decode b_Lw_relocation 7 = .ok (.iload 4, 2) := by decide +kernel
theorem d_Lw_relocation_9 : decode b_Lw_relocation 9 = .ok (.iload 5, 2) := by decide +kernel
theorem d_Lw_relocation_11 : decode b_Lw_relocation 11 = .ok (.invokevirtual 32, 3) := by decide +kernel
theorem d_Lw_relocation_14 : decode b_Lw_relocation 14 = .ok (.i2l, 1) := by decide +kernel
theorem d_Lw_relocation_15 : decode b_Lw_relocation 15 = .ok (.lastore, 1) := by decide +kernel
theorem d_Lw_relocation_16 : decode b_Lw_relocation 16 = .ok (.goto 11, 3) := by decide +kernel
theorem d_Lw_relocation_19 : decode b_Lw_relocation 19 = .ok (.astore 7, 2) := by decide +kernel
theorem d_Lw_relocation_21 : decode b_Lw_relocation 21 = .ok (.iconst 1, 1) := by decide +kernel
theorem d_Lw_relocation_22 : decode b_Lw_relocation 22 = .ok (.ireturn, 1) := by decide +kernel
theorem d_Lw_relocation_23 : decode b_Lw_relocation 23 = .ok (.astore 7, 2) := by decide +kernel
theorem d_Lw_relocation_25 : decode b_Lw_relocation 25 = .ok (.iconst 2, 1) := by decide +kernel
theorem d_Lw_relocation_26 : decode b_Lw_relocation 26 = .ok (.ireturn, 1) := by decide +kernel
theorem d_Lw_relocation_27 : decode b_Lw_relocation 27 = .ok (.iconst 0, 1) := by decide +kernel
theorem d_Lw_relocation_28 : decode b_Lw_relocation 28 = .ok (.ireturn, 1) := by decide +kernel
theorem d_Lw_entry_0 : decode b_Lw_entry 0 = .ok (.aload_n 0, 1) := by decide +kernel
theorem d_Lw_entry_1 : decode b_Lw_entry 1 = .ok (.iload_n 1, 1) := by decide +kernel
theorem d_Lw_entry_2 : decode b_Lw_entry 2 = .ok (.invokevirtual 35, 3) := by decide +kernel
theorem d_Lw_entry_5 : decode b_Lw_entry 5 = .ok (.goto 6, 3) := by decide +kernel
theorem d_Lw_entry_8 : decode b_Lw_entry 8 = .ok (.astore_n 2, 1) := by decide +kernel
theorem d_Lw_entry_9 : decode b_Lw_entry 9 = .ok (.iconst 1, 1) := by decide +kernel
theorem d_Lw_entry_10 : decode b_Lw_entry 10 = .ok (.ireturn, 1) := by decide +kernel
theorem d_Lw_entry_11 : decode b_Lw_entry 11 = .ok (.iconst 0, 1) := by decide +kernel
theorem d_Lw_entry_12 : decode b_Lw_entry 12 = .ok (.ireturn, 1) := by decide +kernel
theorem d_Lw_keep_0 : decode b_Lw_keep 0 = .ok (.aload_n 0, 1) := by decide +kernel
theorem d_Lw_keep_1 : decode b_Lw_keep 1 = .ok (.iload_n 1, 1) := by decide +kernel
theorem d_Lw_keep_2 : decode b_Lw_keep 2 = .ok (.iload_n 2, 1) := by decide +kernel
theorem d_Lw_keep_3 : decode b_Lw_keep 3 = .ok (.invokevirtual 39, 3) := by decide +kernel
theorem d_Lw_keep_6 : decode b_Lw_keep 6 = .ok (.goto 6, 3) := by decide +kernel
theorem d_Lw_keep_9 : decode b_Lw_keep 9 = .ok (.astore_n 3, 1) := by decide +kernel
theorem d_Lw_keep_10 : decode b_Lw_keep 10 = .ok (.iconst 1, 1) := by decide +kernel
theorem d_Lw_keep_11 : decode b_Lw_keep 11 = .ok (.ireturn, 1) := by decide +kernel
theorem d_Lw_keep_12 : decode b_Lw_keep 12 = .ok (.iconst 0, 1) := by decide +kernel
theorem d_Lw_keep_13 : decode b_Lw_keep 13 = .ok (.ireturn, 1) := by decide +kernel
theorem d_Lw_link_0 : decode b_Lw_link 0 = .ok (.aload_n 2, 1) := by decide +kernel
theorem d_Lw_link_1 : decode b_Lw_link 1 = .ok (.iconst 0, 1) := by decide +kernel
theorem d_Lw_link_2 : decode b_Lw_link 2 = .ok (.aload_n 0, 1) := by decide +kernel
theorem d_Lw_link_3 : decode b_Lw_link 3 = .ok (.iload_n 1, 1) := by decide +kernel
theorem d_Lw_link_4 : decode b_Lw_link 4 = .ok (.invokevirtual 43, 3) := by decide +kernel
theorem d_Lw_link_7 : decode b_Lw_link 7 = .ok (.i2l, 1) := by decide +kernel
theorem d_Lw_link_8 : decode b_Lw_link 8 = .ok (.lastore, 1) := by decide +kernel
theorem d_Lw_link_9 : decode b_Lw_link 9 = .ok (.goto 6, 3) := by decide +kernel
theorem d_Lw_link_12 : decode b_Lw_link 12 = .ok (.astore_n 3, 1) := by decide +kernel
theorem d_Lw_link_13 : decode b_Lw_link 13 = .ok (.iconst 1, 1) := by decide +kernel
theorem d_Lw_link_14 : decode b_Lw_link 14 = .ok (.ireturn, 1) := by decide +kernel
theorem d_Lw_link_15 : decode b_Lw_link 15 = .ok (.iconst 0, 1) := by decide +kernel
theorem d_Lw_link_16 : decode b_Lw_link 16 = .ok (.ireturn, 1) := by decide +kernel
theorem d_Lw_fault_0 : decode b_Lw_fault 0 = .ok (.aload_n 2, 1) := by decide +kernel
theorem d_Lw_fault_1 : decode b_Lw_fault 1 = .ok (.iconst 0, 1) := by decide +kernel
theorem d_Lw_fault_2 : decode b_Lw_fault 2 = .ok (.aload_n 0, 1) := by decide +kernel
theorem d_Lw_fault_3 : decode b_Lw_fault 3 = .ok (.iload_n 1, 1) := by decide +kernel
theorem d_Lw_fault_4 : decode b_Lw_fault 4 = .ok (.invokevirtual 46, 3) := by decide +kernel
theorem d_Lw_fault_7 : decode b_Lw_fault 7 = .ok (.i2l, 1) := by decide +kernel
theorem d_Lw_fault_8 : decode b_Lw_fault 8 = .ok (.lastore, 1) := by decide +kernel
theorem d_Lw_fault_9 : decode b_Lw_fault 9 = .ok (.goto 6, 3) := by decide +kernel
theorem d_Lw_fault_12 : decode b_Lw_fault 12 = .ok (.astore_n 3, 1) := by decide +kernel
theorem d_Lw_fault_13 : decode b_Lw_fault 13 = .ok (.iconst 1, 1) := by decide +kernel
theorem d_Lw_fault_14 : decode b_Lw_fault 14 = .ok (.ireturn, 1) := by decide +kernel
theorem d_Lw_fault_15 : decode b_Lw_fault 15 = .ok (.iconst 0, 1) := by decide +kernel
theorem d_Lw_fault_16 : decode b_Lw_fault 16 = .ok (.ireturn, 1) := by decide +kernel
theorem d_Lw_isIn_0 : decode b_Lw_isIn 0 = .ok (.aload_n 2, 1) := by decide +kernel
theorem d_Lw_isIn_1 : decode b_Lw_isIn 1 = .ok (.iconst 0, 1) := by decide +kernel
theorem d_Lw_isIn_2 : decode b_Lw_isIn 2 = .ok (.aload_n 0, 1) := by decide +kernel
theorem d_Lw_isIn_3 : decode b_Lw_isIn 3 = .ok (.iload_n 1, 1) := by decide +kernel
theorem d_Lw_isIn_4 : decode b_Lw_isIn 4 = .ok (.invokevirtual 49, 3) := by decide +kernel
theorem d_Lw_isIn_7 : decode b_Lw_isIn 7 = .ok (.ifCond .eq 7, 3) := by decide +kernel
theorem d_Lw_isIn_10 : decode b_Lw_isIn 10 = .ok (.lconst 1, 1) := by decide +kernel
theorem d_Lw_isIn_11 : decode b_Lw_isIn 11 = .ok (.goto 4, 3) := by decide +kernel
theorem d_Lw_isIn_14 : decode b_Lw_isIn 14 = .ok (.lconst 0, 1) := by decide +kernel
theorem d_Lw_isIn_15 : decode b_Lw_isIn 15 = .ok (.lastore, 1) := by decide +kernel
theorem d_Lw_isIn_16 : decode b_Lw_isIn 16 = .ok (.goto 9, 3) := by decide +kernel
theorem d_Lw_isIn_19 : decode b_Lw_isIn 19 = .ok (.astore_n 3, 1) := by decide +kernel
theorem d_Lw_isIn_20 : decode b_Lw_isIn 20 = .ok (.iconst 1, 1) := by decide +kernel
theorem d_Lw_isIn_21 : decode b_Lw_isIn 21 = .ok (.ireturn, 1) := by decide +kernel
theorem d_Lw_isIn_22 : decode b_Lw_isIn 22 = .ok (.astore_n 3, 1) := by decide +kernel
theorem d_Lw_isIn_23 : decode b_Lw_isIn 23 = .ok (.iconst 2, 1) := by decide +kernel
theorem d_Lw_isIn_24 : decode b_Lw_isIn 24 = .ok (.ireturn, 1) := by decide +kernel
theorem d_Lw_isIn_25 : decode b_Lw_isIn 25 = .ok (.iconst 0, 1) := by decide +kernel
theorem d_Lw_isIn_26 : decode b_Lw_isIn 26 = .ok (.ireturn, 1) := by decide +kernel
theorem d_Lw_address_0 : decode b_Lw_address 0 = .ok (.aload_n 2, 1) := by decide +kernel
theorem d_Lw_address_1 : decode b_Lw_address 1 = .ok (.iconst 0, 1) := by decide +kernel
theorem d_Lw_address_2 : decode b_Lw_address 2 = .ok (.aload_n 0, 1) := by decide +kernel
theorem d_Lw_address_3 : decode b_Lw_address 3 = .ok (.iload_n 1, 1) := by decide +kernel
theorem d_Lw_address_4 : decode b_Lw_address 4 = .ok (.invokevirtual 55, 3) := by decide +kernel
theorem d_Lw_address_7 : decode b_Lw_address 7 = .ok (.i2l, 1) := by decide +kernel
theorem d_Lw_address_8 : decode b_Lw_address 8 = .ok (.lastore, 1) := by decide +kernel
theorem d_Lw_address_9 : decode b_Lw_address 9 = .ok (.goto 9, 3) := by decide +kernel
theorem d_Lw_address_12 : decode b_Lw_address 12 = .ok (.astore_n 3, 1) := by decide +kernel
theorem d_Lw_address_13 : decode b_Lw_address 13 = .ok (.iconst 1, 1) := by decide +kernel
theorem d_Lw_address_14 : decode b_Lw_address 14 = .ok (.ireturn, 1) := by decide +kernel
theorem d_Lw_address_15 : decode b_Lw_address 15 = .ok (.astore_n 3, 1) := by decide +kernel
theorem d_Lw_address_16 : decode b_Lw_address 16 = .ok (.iconst 2, 1) := by decide +kernel
theorem d_Lw_address_17 : decode b_Lw_address 17 = .ok (.ireturn, 1) := by decide +kernel
theorem d_Lw_address_18 : decode b_Lw_address 18 = .ok (.iconst 0, 1) := by decide +kernel
theorem d_Lw_address_19 : decode b_Lw_address 19 = .ok (.ireturn, 1) := by decide +kernel
theorem d_Lw_like_0 : decode b_Lw_like 0 = .ok (.aload_n 2, 1) := by decide +kernel
theorem d_Lw_like_1 : decode b_Lw_like 1 = .ok (.iconst 0, 1) := by decide +kernel
theorem d_Lw_like_2 : decode b_Lw_like 2 = .ok (.aload_n 0, 1) := by decide +kernel
theorem d_Lw_like_3 : decode b_Lw_like 3 = .ok (.iload_n 1, 1) := by decide +kernel
theorem d_Lw_like_4 : decode b_Lw_like 4 = .ok (.invokevirtual 58, 3) := by decide +kernel
theorem d_Lw_like_7 : decode b_Lw_like 7 = .ok (.i2l, 1) := by decide +kernel
theorem d_Lw_like_8 : decode b_Lw_like 8 = .ok (.lastore, 1) := by decide +kernel
theorem d_Lw_like_9 : decode b_Lw_like 9 = .ok (.goto 9, 3) := by decide +kernel
theorem d_Lw_like_12 : decode b_Lw_like 12 = .ok (.astore_n 3, 1) := by decide +kernel
theorem d_Lw_like_13 : decode b_Lw_like 13 = .ok (.iconst 1, 1) := by decide +kernel
theorem d_Lw_like_14 : decode b_Lw_like 14 = .ok (.ireturn, 1) := by decide +kernel
theorem d_Lw_like_15 : decode b_Lw_like 15 = .ok (.astore_n 3, 1) := by decide +kernel
theorem d_Lw_like_16 : decode b_Lw_like 16 = .ok (.iconst 2, 1) := by decide +kernel
theorem d_Lw_like_17 : decode b_Lw_like 17 = .ok (.ireturn, 1) := by decide +kernel
theorem d_Lw_like_18 : decode b_Lw_like 18 = .ok (.iconst 0, 1) := by decide +kernel
theorem d_Lw_like_19 : decode b_Lw_like 19 = .ok (.ireturn, 1) := by decide +kernel
theorem d_Lw_means_0 : decode b_Lw_means 0 = .ok (.aload_n 3, 1) := by decide +kernel
theorem d_Lw_means_1 : decode b_Lw_means 1 = .ok (.iconst 0, 1) := by decide +kernel
theorem d_Lw_means_2 : decode b_Lw_means 2 = .ok (.aload_n 0, 1) := by decide +kernel
theorem d_Lw_means_3 : decode b_Lw_means 3 = .ok (.iload_n 1, 1) := by decide +kernel
theorem d_Lw_means_4 : decode b_Lw_means 4 = .ok (.iload_n 2, 1) := by decide +kernel
theorem d_Lw_means_5 : decode b_Lw_means 5 = .ok (.invokevirtual 61, 3) := by decide +kernel
theorem d_Lw_means_8 : decode b_Lw_means 8 = .ok (.i2l, 1) := by decide +kernel
theorem d_Lw_means_9 : decode b_Lw_means 9 = .ok (.lastore, 1) := by decide +kernel
theorem d_Lw_means_10 : decode b_Lw_means 10 = .ok (.goto 11, 3) := by decide +kernel
theorem d_Lw_means_13 : decode b_Lw_means 13 = .ok (.astore 4, 2) := by decide +kernel
theorem d_Lw_means_15 : decode b_Lw_means 15 = .ok (.iconst 1, 1) := by decide +kernel
theorem d_Lw_means_16 : decode b_Lw_means 16 = .ok (.ireturn, 1) := by decide +kernel
theorem d_Lw_means_17 : decode b_Lw_means 17 = .ok (.astore 4, 2) := by decide +kernel
theorem d_Lw_means_19 : decode b_Lw_means 19 = .ok (.iconst 2, 1) := by decide +kernel
theorem d_Lw_means_20 : decode b_Lw_means 20 = .ok (.ireturn, 1) := by decide +kernel
theorem d_Lw_means_21 : decode b_Lw_means 21 = .ok (.iconst 0, 1) := by decide +kernel
theorem d_Lw_means_22 : decode b_Lw_means 22 = .ok (.ireturn, 1) := by decide +kernel
theorem d_Lw_common_0 : decode b_Lw_common 0 = .ok (.aload_n 2, 1) := by decide +kernel
theorem d_Lw_common_1 : decode b_Lw_common 1 = .ok (.iconst 0, 1) := by decide +kernel
theorem d_Lw_common_2 : decode b_Lw_common 2 = .ok (.aload_n 0, 1) := by decide +kernel
theorem d_Lw_common_3 : decode b_Lw_common 3 = .ok (.iload_n 1, 1) := by decide +kernel
theorem d_Lw_common_4 : decode b_Lw_common 4 = .ok (.invokevirtual 65, 3) := by decide +kernel
theorem d_Lw_common_7 : decode b_Lw_common 7 = .ok (.i2l, 1) := by decide +kernel
theorem d_Lw_common_8 : decode b_Lw_common 8 = .ok (.lastore, 1) := by decide +kernel
theorem d_Lw_common_9 : decode b_Lw_common 9 = .ok (.goto 9, 3) := by decide +kernel
theorem d_Lw_common_12 : decode b_Lw_common 12 = .ok (.astore_n 3, 1) := by decide +kernel
theorem d_Lw_common_13 : decode b_Lw_common 13 = .ok (.iconst 1, 1) := by decide +kernel
theorem d_Lw_common_14 : decode b_Lw_common 14 = .ok (.ireturn, 1) := by decide +kernel
theorem d_Lw_common_15 : decode b_Lw_common 15 = .ok (.astore_n 3, 1) := by decide +kernel
theorem d_Lw_common_16 : decode b_Lw_common 16 = .ok (.iconst 2, 1) := by decide +kernel
theorem d_Lw_common_17 : decode b_Lw_common 17 = .ok (.ireturn, 1) := by decide +kernel
theorem d_Lw_common_18 : decode b_Lw_common 18 = .ok (.iconst 0, 1) := by decide +kernel
theorem d_Lw_common_19 : decode b_Lw_common 19 = .ok (.ireturn, 1) := by decide +kernel
theorem d_Lw_at_0 : decode b_Lw_at 0 = .ok (.aload_n 2, 1) := by decide +kernel
theorem d_Lw_at_1 : decode b_Lw_at 1 = .ok (.iconst 0, 1) := by decide +kernel
theorem d_Lw_at_2 : decode b_Lw_at 2 = .ok (.aload_n 0, 1) := by decide +kernel
theorem d_Lw_at_3 : decode b_Lw_at 3 = .ok (.iload_n 1, 1) := by decide +kernel
theorem d_Lw_at_4 : decode b_Lw_at 4 = .ok (.invokevirtual 68, 3) := by decide +kernel
theorem d_Lw_at_7 : decode b_Lw_at 7 = .ok (.i2l, 1) := by decide +kernel
theorem d_Lw_at_8 : decode b_Lw_at 8 = .ok (.lastore, 1) := by decide +kernel
theorem d_Lw_at_9 : decode b_Lw_at 9 = .ok (.goto 9, 3) := by decide +kernel
theorem d_Lw_at_12 : decode b_Lw_at 12 = .ok (.astore_n 3, 1) := by decide +kernel
theorem d_Lw_at_13 : decode b_Lw_at 13 = .ok (.iconst 1, 1) := by decide +kernel
theorem d_Lw_at_14 : decode b_Lw_at 14 = .ok (.ireturn, 1) := by decide +kernel
theorem d_Lw_at_15 : decode b_Lw_at 15 = .ok (.astore_n 3, 1) := by decide +kernel
theorem d_Lw_at_16 : decode b_Lw_at 16 = .ok (.iconst 2, 1) := by decide +kernel
theorem d_Lw_at_17 : decode b_Lw_at 17 = .ok (.ireturn, 1) := by decide +kernel
theorem d_Lw_at_18 : decode b_Lw_at 18 = .ok (.iconst 0, 1) := by decide +kernel
theorem d_Lw_at_19 : decode b_Lw_at 19 = .ok (.ireturn, 1) := by decide +kernel
theorem d_Lw_about_0 : decode b_Lw_about 0 = .ok (.aload_n 2, 1) := by decide +kernel
theorem d_Lw_about_1 : decode b_Lw_about 1 = .ok (.iconst 0, 1) := by decide +kernel
theorem d_Lw_about_2 : decode b_Lw_about 2 = .ok (.aload_n 0, 1) := by decide +kernel
theorem d_Lw_about_3 : decode b_Lw_about 3 = .ok (.iload_n 1, 1) := by decide +kernel
theorem d_Lw_about_4 : decode b_Lw_about 4 = .ok (.invokevirtual 73, 3) := by decide +kernel
theorem d_Lw_about_7 : decode b_Lw_about 7 = .ok (.i2l, 1) := by decide +kernel
theorem d_Lw_about_8 : decode b_Lw_about 8 = .ok (.lastore, 1) := by decide +kernel
theorem d_Lw_about_9 : decode b_Lw_about 9 = .ok (.goto 9, 3) := by decide +kernel
theorem d_Lw_about_12 : decode b_Lw_about 12 = .ok (.astore_n 3, 1) := by decide +kernel
theorem d_Lw_about_13 : decode b_Lw_about 13 = .ok (.iconst 1, 1) := by decide +kernel
theorem d_Lw_about_14 : decode b_Lw_about 14 = .ok (.ireturn, 1) := by decide +kernel
theorem d_Lw_about_15 : decode b_Lw_about 15 = .ok (.astore_n 3, 1) := by decide +kernel
theorem d_Lw_about_16 : decode b_Lw_about 16 = .ok (.iconst 2, 1) := by decide +kernel
theorem d_Lw_about_17 : decode b_Lw_about 17 = .ok (.ireturn, 1) := by decide +kernel
theorem d_Lw_about_18 : decode b_Lw_about 18 = .ok (.iconst 0, 1) := by decide +kernel
theorem d_Lw_about_19 : decode b_Lw_about 19 = .ok (.ireturn, 1) := by decide +kernel
