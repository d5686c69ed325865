abbrev b_rangeCheck : ByteArray := prog_32_method_30_code
def y_rangeCheck : MethodName := ⟨"java/util/Arrays", "rangeCheck", "(III)V"⟩
abbrev rm_rangeCheck : Room := { frames := 0, cells := 0, slots := 0, locals := 0 }
abbrev b_fillr14 : ByteArray := prog_32_method_104_code
def y_fillr14 : MethodName := ⟨"java/util/Arrays", "fill", "([IIII)V"⟩
abbrev rm_fillr14 : Room := { frames := 1, cells := 0, slots := 0, locals := 22 }
abbrev b_Se_store : ByteArray := prog_10_method_5_code
def y_Se_store : MethodName := ⟨R_Se, "store", "(I)V"⟩
abbrev rm_Se_store (c s : Nat) : Room := { frames := 2, cells := c, slots := s, locals := 90 }
def f_rangeCheck (V : Sto) (p0 : Int32) (p1 : Int32) (p2 : Int32) : RT :=
  if p1 ≤ p2 then
    if 0 ≤ p1 then
      if p2 ≤ p0 then
        some (0, V)
      else
      none
    else
    none
  else
  none
def lp_fillr14_10 (x2 : Int32) (x3 : Int32) (k27 : Sto → RT) : Nat → Int32 → Sto → RT
  | 0, _, _ => none
  | n + 1, x4, V =>
    if x2 ≤ x4 then
      k27 V
    else
    ck (ib x4 ((V 1000 14).toNatClampNeg)) <| nm (sw V 14 x4.toNatClampNeg x3) fun V2 =>
    lp_fillr14_10 x2 x3 k27 n (x4 + 1) V2
def f_fillr14 (V : Sto) (p1 : Int32) (p2 : Int32) (p3 : Int32) : RT :=
  cl (f_rangeCheck V (nI ((V 1000 14).toNatClampNeg)) p1 p2) fun r1 V1 =>
  lp_fillr14_10 p2 p3
    (fun V3 =>
      some (0, V3)) FU p1 V1
def g_Se_tail (V : Sto) (x2 : Int32) : RT :=
  cl (f_fillr14 V (V 2 2) x2 0) fun r1 V1 =>
  nm (sw V1 2 2 x2) fun V2 =>
  some (0, V2)
