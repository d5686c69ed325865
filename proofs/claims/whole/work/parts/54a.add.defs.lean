abbrev b_Se_add : ByteArray := prog_10_method_4_code
def y_Se_add : MethodName := ⟨R_Se, "add", "(IIII)I"⟩
abbrev rm_Se_add (c s : Nat) : Room := { frames := 3, cells := c, slots := s, locals := 112 }
def f_Se_add (V : Sto) (p1 : Int32) (p2 : Int32) (p3 : Int32) (p4 : Int32) : RT :=
  ck (ib (V 2 0) 96) <| nm (sw V 15 (V 2 0).toNatClampNeg p1) fun V1 =>
  ck (ib (V1 2 0) 96) <| nm (sw V1 16 (V1 2 0).toNatClampNeg p2) fun V2 =>
  ck (ib (V2 2 0) 96) <| nm (sw V2 17 (V2 2 0).toNatClampNeg p3) fun V3 =>
  ck (ib (V3 2 0) 96) <| nm (sw V3 18 (V3 2 0).toNatClampNeg p4) fun V4 =>
  ck (ib (V4 2 0) 96) <| nm (sw V4 19 (V4 2 0).toNatClampNeg (V4 2 2)) fun V5 =>
  ck (ib (V5 2 0) 96) <| nm (sw V5 20 (V5 2 0).toNatClampNeg 0) fun V6 =>
  nm (sw V6 2 1 ((V6 2 1) + p3)) fun V7 =>
  if p2 = 2 then
    nm (sw V7 2 0 ((V7 2 0) + 1)) fun V8 =>
    some (V7 2 0, V8)
  else
  cl (f_Se_store V7 (p3 / 4)) fun r1 V9 =>
  nm (sw V9 2 0 ((V9 2 0) + 1)) fun V10 =>
  some (V9 2 0, V10)
