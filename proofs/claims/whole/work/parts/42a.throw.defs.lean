abbrev b_Ly_like : ByteArray := prog_1_method_16_code
def y_Ly_like : MethodName := ⟨R_Ly, "like", "(I)I"⟩
abbrev rm_Ly_like : Room := { frames := 2, cells := 0, slots := 0, locals := 42 }
abbrev rmt_Ly_like : Room := { frames := 7, cells := 1, slots := 6, locals := 110 }
abbrev b_Ly_means : ByteArray := prog_1_method_17_code
def y_Ly_means : MethodName := ⟨R_Ly, "means", "(II)I"⟩
abbrev rm_Ly_means : Room := { frames := 2, cells := 0, slots := 0, locals := 43 }
abbrev rmt_Ly_means : Room := { frames := 7, cells := 1, slots := 6, locals := 109 }
abbrev b_Ly_common : ByteArray := prog_1_method_18_code
def y_Ly_common : MethodName := ⟨R_Ly, "common", "(I)I"⟩
abbrev rm_Ly_common : Room := { frames := 1, cells := 0, slots := 0, locals := 20 }
abbrev rmt_Ly_common : Room := { frames := 7, cells := 1, slots := 6, locals := 109 }
abbrev b_Ly_at : ByteArray := prog_1_method_19_code
def y_Ly_at : MethodName := ⟨R_Ly, "at", "(I)I"⟩
abbrev rm_Ly_at : Room := { frames := 6, cells := 0, slots := 0, locals := 135 }
abbrev rmt_Ly_at : Room := { frames := 7, cells := 1, slots := 6, locals := 135 }
abbrev b_Ly_about : ByteArray := prog_1_method_20_code
def y_Ly_about : MethodName := ⟨R_Ly, "about", "(I)I"⟩
abbrev rm_Ly_about : Room := { frames := 2, cells := 0, slots := 0, locals := 43 }
abbrev rmt_Ly_about : Room := { frames := 7, cells := 1, slots := 6, locals := 109 }
def f_Ly_like (V : Sto) (p1 : Int32) : RTT :=
  clT (f_Ly_askLinked V) fun r1 V1 =>
  clT (f_Ly_askSection V1 p1) fun r2 V2 =>
  ck (ib p1 96) <|
  if (V2 43 p1.toNatClampNeg) = 0 then
    some (.inl (-1), V2)
  else
  ck (ib p1 96) <|
  some (.inl (V2 46 p1.toNatClampNeg), V2)
def f_Ly_means (V : Sto) (p1 : Int32) (p2 : Int32) : RTT :=
  clT (f_Ly_askLinked V) fun r1 V1 =>
  cl (f_Sy_has V1 p1) fun r2 V2 =>
  if r2 = 0 then
    some (.inr 0, V2)
  else
  if p2 = 0 then
    ck (ib p1 400) <|
    some (.inl (V2 40 p1.toNatClampNeg), V2)
  else
  if p2 = 1 then
    ck (ib p1 400) <|
    if (V2 40 p1.toNatClampNeg) = 1 then
      ck (ib p1 400) <|
      some (.inl (V2 41 p1.toNatClampNeg), V2)
    else
    some (.inl (-1), V2)
  else
  if p2 = 2 then
    cl (f_La_isLaid V2 p1) fun r3 V3 =>
    if r3 = 0 then
      some (.inl 0, V3)
    else
    cl (f_La_addressOf V3 p1) fun r4 V4 =>
    some (.inl r4, V4)
  else
  some (.inr 0, V2)
def f_Ly_common (V : Sto) (p1 : Int32) : RTT :=
  clT (f_Ly_askLinked V) fun r1 V1 =>
  cl (f_Ly_isName V1 p1) fun r2 V2 =>
  if r2 = 0 then
    some (.inr 0, V2)
  else
  ck (ib p1 200) <|
  some (.inl (V2 49 p1.toNatClampNeg), V2)
def f_Ly_at (V : Sto) (p1 : Int32) : RTT :=
  clT (f_Ly_askLinked V) fun r1 V1 =>
  if (p1 - p1 / 4 * 4) = 0 then
    if p1 < (V1 9 4) then
      some (.inr 2, V1)
    else
    if p1 < (V1 9 5) then
      cl (f_Me_read V1 p1) fun r2 V2 =>
      some (.inl r2, V2)
    else
    some (.inr 2, V1)
  else
  some (.inr 2, V1)
def f_Ly_about (V : Sto) (p1 : Int32) : RTT :=
  clT (f_Ly_askLinked V) fun r1 V1 =>
  if p1 = 0 then
    cl (f_Un_countIn V1) fun r2 V2 =>
    some (.inl r2, V2)
  else
  if p1 = 1 then
    some (.inl (V1 7 6), V1)
  else
  if p1 = 2 then
    cl (f_Fo_countFolded V1) fun r3 V3 =>
    some (.inl r3, V3)
  else
  if p1 = 3 then
    some (.inl (V1 10 5), V1)
  else
  if p1 = 4 then
    if (V1 10 5) ≤ 0 then
      some (.inl (-1), V1)
    else
    some (.inl (V1 9 7), V1)
  else
  if p1 = 5 then
    some (.inl (V1 10 6), V1)
  else
  if p1 = 6 then
    some (.inl (V1 9 5), V1)
  else
  if p1 = 7 then
    some (.inl (V1 9 6), V1)
  else
  some (.inr 0, V1)
