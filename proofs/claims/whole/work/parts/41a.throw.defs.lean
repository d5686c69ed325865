abbrev b_Ly_unit : ByteArray := prog_1_method_2_code
def y_Ly_unit : MethodName := ⟨R_Ly, "unit", "(I)I"⟩
abbrev rm_Ly_unit : Room := { frames := 1, cells := 0, slots := 0, locals := 21 }
abbrev rmt_Ly_unit : Room := { frames := 6, cells := 1, slots := 6, locals := 89 }
abbrev b_Ly_word : ByteArray := prog_1_method_4_code
def y_Ly_word : MethodName := ⟨R_Ly, "word", "(III)V"⟩
abbrev rm_Ly_word : Room := { frames := 2, cells := 0, slots := 0, locals := 43 }
abbrev rmt_Ly_word : Room := { frames := 6, cells := 1, slots := 6, locals := 89 }
abbrev b_Ly_symbol : ByteArray := prog_1_method_5_code
def y_Ly_symbol : MethodName := ⟨R_Ly, "symbol", "(IIII)I"⟩
abbrev rm_Ly_symbol : Room := { frames := 1, cells := 0, slots := 0, locals := 24 }
abbrev rmt_Ly_symbol : Room := { frames := 6, cells := 1, slots := 6, locals := 89 }
abbrev b_Ly_other : ByteArray := prog_1_method_6_code
def y_Ly_other : MethodName := ⟨R_Ly, "other", "(IIIII)I"⟩
abbrev rm_Ly_other : Room := { frames := 2, cells := 0, slots := 0, locals := 43 }
abbrev rmt_Ly_other : Room := { frames := 6, cells := 1, slots := 6, locals := 89 }
abbrev b_Ly_relocation : ByteArray := prog_1_method_7_code
def y_Ly_relocation : MethodName := ⟨R_Ly, "relocation", "(IIIII)I"⟩
abbrev rm_Ly_relocation : Room := { frames := 2, cells := 0, slots := 0, locals := 43 }
abbrev rmt_Ly_relocation : Room := { frames := 6, cells := 1, slots := 6, locals := 89 }
abbrev b_Ly_entry : ByteArray := prog_1_method_8_code
def y_Ly_entry : MethodName := ⟨R_Ly, "entry", "(I)V"⟩
abbrev rm_Ly_entry : Room := { frames := 1, cells := 0, slots := 0, locals := 20 }
abbrev rmt_Ly_entry : Room := { frames := 6, cells := 1, slots := 6, locals := 89 }
abbrev b_Ly_keep : ByteArray := prog_1_method_9_code
def y_Ly_keep : MethodName := ⟨R_Ly, "keep", "(IZ)V"⟩
abbrev rm_Ly_keep : Room := { frames := 1, cells := 0, slots := 0, locals := 21 }
abbrev rmt_Ly_keep : Room := { frames := 6, cells := 1, slots := 6, locals := 89 }
abbrev b_Ly_link : ByteArray := prog_1_method_12_code
def y_Ly_link : MethodName := ⟨R_Ly, "link", "(I)I"⟩
abbrev rm_Ly_link : Room := { frames := 6, cells := 0, slots := 0, locals := 137 }
abbrev rmt_Ly_link : Room := { frames := 6, cells := 1, slots := 6, locals := 137 }
abbrev b_Ly_fault : ByteArray := prog_1_method_13_code
def y_Ly_fault : MethodName := ⟨R_Ly, "fault", "(I)I"⟩
abbrev rm_Ly_fault : Room := { frames := 0, cells := 0, slots := 0, locals := 0 }
abbrev rmt_Ly_fault : Room := { frames := 6, cells := 1, slots := 6, locals := 89 }
abbrev b_Ly_askLinked : ByteArray := prog_1_method_22_code
def y_Ly_askLinked : MethodName := ⟨R_Ly, "askLinked", "()V"⟩
abbrev rm_Ly_askLinked : Room := { frames := 0, cells := 0, slots := 0, locals := 0 }
abbrev rmt_Ly_askLinked : Room := { frames := 6, cells := 1, slots := 6, locals := 89 }
abbrev b_Ly_isIn : ByteArray := prog_1_method_14_code
def y_Ly_isIn : MethodName := ⟨R_Ly, "isIn", "(I)Z"⟩
abbrev rm_Ly_isIn : Room := { frames := 1, cells := 0, slots := 0, locals := 21 }
abbrev rmt_Ly_isIn : Room := { frames := 7, cells := 1, slots := 6, locals := 109 }
abbrev b_Ly_askSection : ByteArray := prog_1_method_23_code
def y_Ly_askSection : MethodName := ⟨R_Ly, "askSection", "(I)V"⟩
abbrev rm_Ly_askSection : Room := { frames := 1, cells := 0, slots := 0, locals := 21 }
abbrev rmt_Ly_askSection : Room := { frames := 6, cells := 1, slots := 6, locals := 89 }
abbrev b_Ly_address : ByteArray := prog_1_method_15_code
def y_Ly_address : MethodName := ⟨R_Ly, "address", "(I)I"⟩
abbrev rm_Ly_address : Room := { frames := 2, cells := 0, slots := 0, locals := 42 }
abbrev rmt_Ly_address : Room := { frames := 7, cells := 1, slots := 6, locals := 110 }
def f_Ly_unit (V : Sto) (p1 : Int32) : RTT :=
  if p1 = (-1) then
    if (V 1 0) < 24 then
      cl (f_Ly_takeLinkAway V) fun r1 V1 =>
      cl (f_Un_add V1 p1) fun r2 V2 =>
      some (.inl r2, V2)
    else
    some (.inr 3, V)
  else
  if p1 < 0 then
    some (.inr 0, V)
  else
  if p1 < 4 then
    if (V 1 0) < 24 then
      cl (f_Ly_takeLinkAway V) fun r3 V3 =>
      cl (f_Un_add V3 p1) fun r4 V4 =>
      some (.inl r4, V4)
    else
    some (.inr 3, V)
  else
  some (.inr 0, V)
def f_Ly_word (V : Sto) (p1 : Int32) (p2 : Int32) (p3 : Int32) : RTT :=
  cl (f_Se_hasWord V p1 p2) fun r1 V1 =>
  if r1 = 0 then
    some (.inr 0, V1)
  else
  cl (f_Ly_takeLinkAway V1) fun r2 V2 =>
  cl (f_Se_write V2 p1 p2 p3) fun r3 V3 =>
  some (.inl 0, V3)
def f_Ly_symbol (V : Sto) (p1 : Int32) (p2 : Int32) (p3 : Int32) (p4 : Int32) : RTT :=
  cl (f_Se_has V p1) fun r1 V1 =>
  if r1 = 0 then
    some (.inr 0, V1)
  else
  if p2 < 0 then
    some (.inr 0, V1)
  else
  ck (ib p1 96) <|
  if p2 ≤ (V1 17 p1.toNatClampNeg) then
    cl (f_Ly_isName V1 p3) fun r2 V2 =>
    if r2 = 0 then
      some (.inr 0, V2)
    else
    if p4 < 0 then
      some (.inr 0, V2)
    else
    if p4 ≤ 2 then
      ck (ib p1 96) <|
      cl (f_Sy_clashes V2 (V2 15 p1.toNatClampNeg) p3 p4) fun r3 V3 =>
      if r3 = 0 then
        if (V3 3 0) < 400 then
          cl (f_Ly_takeLinkAway V3) fun r4 V4 =>
          cl (f_Sy_add V4 (V2 15 p1.toNatClampNeg) p3 p4) fun r5 V5 =>
          cl (f_Sy_define V5 r5 1 p1 p2) fun r6 V6 =>
          some (.inl r5, V6)
        else
        some (.inr 3, V3)
      else
      some (.inr 0, V3)
    else
    some (.inr 0, V2)
  else
  some (.inr 0, V1)
def f_Ly_other (V : Sto) (p1 : Int32) (p2 : Int32) (p3 : Int32) (p4 : Int32) (p5 : Int32) : RTT :=
  cl (f_Un_has V p1) fun r1 V1 =>
  if r1 = 0 then
    some (.inr 0, V1)
  else
  cl (f_Ly_isOther V1 p2 p3 p5) fun r2 V2 =>
  if r2 = 0 then
    some (.inr 0, V2)
  else
  cl (f_Ly_isName V2 p4) fun r3 V3 =>
  if r3 = 0 then
    some (.inr 0, V3)
  else
  cl (f_Sy_clashes V3 p1 p4 p5) fun r4 V4 =>
  if r4 = 0 then
    if (V4 3 0) < 400 then
      cl (f_Ly_takeLinkAway V4) fun r5 V5 =>
      cl (f_Sy_add V5 p1 p4 p5) fun r6 V6 =>
      cl (f_Ly_formOfOther V6 p2) fun r7 V7 =>
      cl (f_Sy_define V7 r6 r7 (-1) p3) fun r8 V8 =>
      some (.inl r6, V8)
    else
    some (.inr 3, V4)
  else
  some (.inr 0, V4)
def f_Ly_relocation (V : Sto) (p1 : Int32) (p2 : Int32) (p3 : Int32) (p4 : Int32) (p5 : Int32) : RTT :=
  cl (f_Se_hasWord V p1 p2) fun r1 V1 =>
  if r1 = 0 then
    some (.inr 0, V1)
  else
  if p3 < 0 then
    some (.inr 0, V1)
  else
  if p3 ≤ 5 then
    cl (f_Sy_has V1 p4) fun r2 V2 =>
    if r2 = 0 then
      some (.inr 0, V2)
    else
    ck (ib p4 400) <|
    ck (ib p1 96) <|
    if (V2 21 p4.toNatClampNeg) = (V2 15 p1.toNatClampNeg) then
      if (V2 4 0) < 600 then
        cl (f_Ly_takeLinkAway V2) fun r3 V3 =>
        cl (f_Re_add V3 p1 p2 p3 p4 p5) fun r4 V4 =>
        some (.inl r4, V4)
      else
      some (.inr 3, V2)
    else
    some (.inr 0, V2)
  else
  some (.inr 0, V1)
def f_Ly_entry (V : Sto) (p1 : Int32) : RTT :=
  if p1 = (-1) then
    cl (f_Ly_takeLinkAway V) fun r1 V1 =>
    nm (sw V1 0 11 p1) fun V2 =>
    some (.inl 0, V2)
  else
  cl (f_Ly_isName V p1) fun r2 V3 =>
  if r2 = 0 then
    some (.inr 0, V3)
  else
  cl (f_Ly_takeLinkAway V3) fun r3 V4 =>
  nm (sw V4 0 11 p1) fun V5 =>
  some (.inl 0, V5)
def f_Ly_keep (V : Sto) (p1 : Int32) (p2 : Int32) : RTT :=
  cl (f_Se_has V p1) fun r1 V1 =>
  if r1 = 0 then
    some (.inr 0, V1)
  else
  cl (f_Ly_takeLinkAway V1) fun r2 V2 =>
  ck (ib p1 96) <| nm (sw V2 20 p1.toNatClampNeg (vp_nar .boolean p2)) fun V3 =>
  some (.inl 0, V3)
def f_Ly_link (V : Sto) (p1 : Int32) : RTT :=
  if p1 < 0 then
    some (.inr 0, V)
  else
  if 1048576 < p1 then
    some (.inr 0, V)
  else
  if (p1 - p1 / 4096 * 4096) = 0 then
    cl (f_Ly_takeLinkAway V) fun r1 V1 =>
    cl (f_Ly_linksNames V1) fun r2 V2 =>
    jn (fun (z1 : Int32) (V4 : Sto) =>
        ck (bb z1) <| nm (sw V4 0 14 z1) fun V5 =>
        if (V5 0 14) = 0 then
          some (.inl (-1), V5)
        else
        some (.inl ((V5 9 5) - p1), V5)) fun j1 =>
    if r2 = 0 then
      j1 0 V2
    else
    cl (f_Ly_linksPlaces V2 p1) fun r3 V3 =>
    if r3 = 0 then
      j1 0 V3
    else
    j1 1 V3
  else
  some (.inr 0, V)
def f_Ly_fault (V : Sto) (p1 : Int32) : RTT :=
  if p1 = 0 then
    some (.inl (V 0 15), V)
  else
  if p1 = 1 then
    some (.inl (V 0 16), V)
  else
  if p1 = 2 then
    some (.inl (V 0 17), V)
  else
  some (.inr 0, V)
def f_Ly_askLinked (V : Sto) : RTT :=
  if (V 0 14) = 0 then
    some (.inr 1, V)
  else
  some (.inl 0, V)
def f_Ly_isIn (V : Sto) (p1 : Int32) : RTT :=
  clT (f_Ly_askLinked V) fun r1 V1 =>
  cl (f_Un_has V1 p1) fun r2 V2 =>
  if r2 = 0 then
    some (.inr 0, V2)
  else
  ck (ib p1 24) <|
  ck (bb (V2 13 p1.toNatClampNeg)) <| some (.inl (V2 13 p1.toNatClampNeg), V2)
def f_Ly_askSection (V : Sto) (p1 : Int32) : RTT :=
  cl (f_Se_has V p1) fun r1 V1 =>
  if r1 = 0 then
    some (.inr 0, V1)
  else
  some (.inl 0, V1)
def f_Ly_address (V : Sto) (p1 : Int32) : RTT :=
  clT (f_Ly_askLinked V) fun r1 V1 =>
  clT (f_Ly_askSection V1 p1) fun r2 V2 =>
  ck (ib p1 96) <|
  some (.inl (V2 48 p1.toNatClampNeg), V2)
