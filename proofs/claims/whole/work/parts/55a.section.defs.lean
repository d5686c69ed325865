abbrev b_Ly_section : ByteArray := prog_1_method_3_code
def y_Ly_section : MethodName := ⟨R_Ly, "section", "(IIII)I"⟩
abbrev rm_Ly_section (c s : Nat) : Room := { frames := 4, cells := c, slots := s, locals := 136 }
abbrev rmt_Ly_section : Room := { frames := 6, cells := 1, slots := 6, locals := 120 }
def f_Ly_section (V : Sto) (p1 : Int32) (p2 : Int32) (p3 : Int32) (p4 : Int32) : RTT :=
  cl (f_Un_has V p1) fun r1 V1 =>
  if r1 = 0 then
    some (.inr 0, V1)
  else
  if p2 < 0 then
    some (.inr 0, V1)
  else
  if p2 ≤ 2 then
    cl (f_Ly_isSize V1 p3 0) fun r2 V2 =>
    if r2 = 0 then
      some (.inr 0, V2)
    else
    cl (f_Ly_isAlignment V2 p4) fun r3 V3 =>
    if r3 = 0 then
      some (.inr 0, V3)
    else
    if 96 ≤ (V3 2 0) then
      some (.inr 3, V3)
    else
    if p3 ≤ (400000 - (V3 2 1)) then
      cl (f_Ly_takeLinkAway V3) fun r4 V4 =>
      cl (f_Se_add V4 p1 p2 p3 p4) fun r5 V5 =>
      some (.inl r5, V5)
    else
    some (.inr 3, V3)
  else
  some (.inr 0, V1)
