def f_Mo_thrown (V : Sto) : RT :=
  some (V 0 0, V)
def f_Mo_refuse (V : Sto) (p1 : Int32) (p2 : Int32) : RT :=
  if p1 = 0 then
    if p2 = 0 then
      nm (sw V 0 0 0) fun V1 =>
      if (V1 0 0) ≤ 0 then
        some (0, V1)
      else
      some (1, V1)
    else
    nm (sw V 0 0 2) fun V2 =>
    if (V2 0 0) ≤ 0 then
      some (0, V2)
    else
    some (1, V2)
  else
  nm (sw V 0 0 1) fun V3 =>
  if (V3 0 0) ≤ 0 then
    some (0, V3)
  else
  some (1, V3)
def f_Mo_within (V : Sto) (p0 : Int32) (p1 : Int32) (p2 : Int32) : RT :=
  if p0 < p1 then
    some (0, V)
  else
  if p2 < p0 then
    some (0, V)
  else
  some (1, V)
def f_Mo_told (V : Sto) : RT :=
  nm (sw V 0 29 0) fun V1 =>
  nm (sw V1 0 30 0) fun V2 =>
  nm (sw V2 0 31 (-1)) fun V3 =>
  nm (sw V3 0 32 (-1)) fun V4 =>
  some (0, V4)
def f_Mo_unit (V : Sto) (p1 : Int32) : RT :=
  cl (f_Mo_within V p1 (-1) 3) fun r1 V1 =>
  jn (fun (z1 : Int32) =>
      jn (fun (z2 : Int32) =>
          cl (f_Mo_refuse V1 z1 z2) fun r2 V2 =>
          if r2 = 0 then
            cl (f_Mo_told V2) fun r3 V3 =>
            ck (ib (V3 0 1) 24) <| nm (sw V3 1 (V3 0 1).toNatClampNeg p1) fun V4 =>
            nm (sw V4 0 1 ((V4 0 1) + 1)) fun V5 =>
            some ((V5 0 1) - 1, V5)
          else
          some (0, V2)) fun j2 =>
      if r1 = 0 then
        j2 0
      else
      if (V1 0 1) = 24 then
        j2 1
      else
      j2 0) fun j1 =>
  if r1 = 0 then
    j1 1
  else
  j1 0
def f_Mo_isAlignment (V : Sto) (p0 : Int32) : RT :=
  cl (f_Mo_within V p0 4 4096) fun r1 V1 =>
  if r1 = 0 then
    some (0, V1)
  else
  if (p0 &&& (p0 - 1)) = 0 then
    some (1, V1)
  else
  some (0, V1)
def lp_Mo_section_185 (x2 : Int32) (x3 : Int32) (k224 : Sto → RT) : Nat → Int32 → Sto → RT
  | 0, _, _ => none
  | n + 1, x6, V =>
    if x2 = 2 then
      k224 V
    else
    if (x3 / 4) ≤ x6 then
      k224 V
    else
    ck (ib (V 0 11) 100000) <| nm (sw V 8 (V 0 11).toNatClampNeg 0) fun V15 =>
    nm (sw V15 0 11 ((V15 0 11) + 1)) fun V16 =>
    lp_Mo_section_185 x2 x3 k224 n (x6 + 1) V16
def f_Mo_section (V : Sto) (p1 : Int32) (p2 : Int32) (p3 : Int32) (p4 : Int32) : RT :=
  cl (f_Mo_within V p1 0 ((V 0 1) - 1)) fun r1 V1 =>
  jn (fun (z1 : Int32) (V5 : Sto) =>
      jn (fun (z2 : Int32) =>
          jn (fun (z3 : Int32) =>
              cl (f_Mo_refuse V5 z2 z3) fun r5 V6 =>
              if r5 = 0 then
                cl (f_Mo_told V6) fun r6 V7 =>
                ck (ib (V7 0 3) 96) <| nm (sw V7 2 (V7 0 3).toNatClampNeg p1) fun V8 =>
                ck (ib (V8 0 3) 96) <| nm (sw V8 3 (V8 0 3).toNatClampNeg p2) fun V9 =>
                ck (ib (V9 0 3) 96) <| nm (sw V9 4 (V9 0 3).toNatClampNeg p3) fun V10 =>
                ck (ib (V10 0 3) 96) <| nm (sw V10 5 (V10 0 3).toNatClampNeg p4) fun V11 =>
                ck (ib (V11 0 3) 96) <| nm (sw V11 6 (V11 0 3).toNatClampNeg (V11 0 11)) fun V12 =>
                ck (ib (V12 0 3) 96) <| nm (sw V12 7 (V12 0 3).toNatClampNeg 0) fun V13 =>
                nm (sw V13 0 10 ((V13 0 10) + p3)) fun V14 =>
                lp_Mo_section_185 p2 p3
                  (fun V17 =>
                    nm (sw V17 0 3 ((V17 0 3) + 1)) fun V18 =>
                    some ((V18 0 3) - 1, V18)) FU 0 V14
              else
              some (0, V6)) fun j3 =>
          if z1 = 0 then
            j3 0
          else
          if (V5 0 3) = 96 then
            j3 1
          else
          if ((V5 0 10) + p3) ≤ 400000 then
            j3 0
          else
          j3 1) fun j2 =>
      if z1 = 0 then
        j2 1
      else
      j2 0) fun j1 =>
  if r1 = 0 then
    j1 0 V1
  else
  cl (f_Mo_within V1 p2 0 2) fun r2 V2 =>
  if r2 = 0 then
    j1 0 V2
  else
  cl (f_Mo_within V2 p3 0 8192) fun r3 V3 =>
  if r3 = 0 then
    j1 0 V3
  else
  if (p3 - p3 / 4 * 4) = 0 then
    cl (f_Mo_isAlignment V3 p4) fun r4 V4 =>
    if r4 = 0 then
      j1 0 V4
    else
    j1 1 V4
  else
  j1 0 V3
def f_Mo_isPlace (V : Sto) (p1 : Int32) (p2 : Int32) : RT :=
  cl (f_Mo_within V p1 0 ((V 0 3) - 1)) fun r1 V1 =>
  if r1 = 0 then
    some (0, V1)
  else
  ck (ib p1 96) <|
  if (V1 3 p1.toNatClampNeg) = 2 then
    some (0, V1)
  else
  if p2 < 0 then
    some (0, V1)
  else
  ck (ib p1 96) <|
  if (V1 4 p1.toNatClampNeg) ≤ p2 then
    some (0, V1)
  else
  if (p2 - p2 / 4 * 4) = 0 then
    some (1, V1)
  else
  some (0, V1)
def f_Mo_word (V : Sto) (p1 : Int32) (p2 : Int32) (p3 : Int32) : RT :=
  cl (f_Mo_isPlace V p1 p2) fun r1 V1 =>
  jn (fun (z1 : Int32) =>
      cl (f_Mo_refuse V1 z1 0) fun r2 V2 =>
      if r2 = 0 then
        cl (f_Mo_told V2) fun r3 V3 =>
        ck (ib p1 96) <|
        ck (ib ((V3 6 p1.toNatClampNeg) + (p2 / 4)) 100000) <| nm (sw V3 8 ((V3 6 p1.toNatClampNeg) + (p2 / 4)).toNatClampNeg p3) fun V4 =>
        some (0, V4)
      else
      some (0, V2)) fun j1 =>
  if r1 = 0 then
    j1 1
  else
  j1 0
def lp_Mo_hasName_6 (x1 : Int32) (x2 : Int32) (x3 : Int32) (k69 : Int32 → Sto → RT) : Nat → Int32 → Int32 → Sto → RT
  | 0, _, _, _ => none
  | n + 1, x4, x5, V =>
    if (V 0 13) ≤ x5 then
      k69 x4 V
    else
    if x4 = 0 then
      ck (ib x5 400) <|
      if (V 9 x5.toNatClampNeg) = x1 then
        ck (ib x5 400) <|
        if (V 13 x5.toNatClampNeg) = x2 then
          ck (ib x5 400) <|
          if (V 14 x5.toNatClampNeg) = 0 then
            lp_Mo_hasName_6 x1 x2 x3 k69 n 0 (x5 + 1) V
          else
          if x3 = 0 then
            lp_Mo_hasName_6 x1 x2 x3 k69 n 0 (x5 + 1) V
          else
          lp_Mo_hasName_6 x1 x2 x3 k69 n 1 (x5 + 1) V
        else
        lp_Mo_hasName_6 x1 x2 x3 k69 n 0 (x5 + 1) V
      else
      lp_Mo_hasName_6 x1 x2 x3 k69 n 0 (x5 + 1) V
    else
    lp_Mo_hasName_6 x1 x2 x3 k69 n 1 (x5 + 1) V
def f_Mo_hasName (V : Sto) (p1 : Int32) (p2 : Int32) (p3 : Int32) : RT :=
  lp_Mo_hasName_6 p1 p2 p3
    (fun y1 V1 =>
      ck (bb y1) <| some (y1, V1)) FU 0 0 V
def f_Mo_newSymbol (V : Sto) (p1 : Int32) (p2 : Int32) (p3 : Int32) (p4 : Int32) (p5 : Int32) (p6 : Int32) : RT :=
  cl (f_Mo_told V) fun r1 V1 =>
  ck (ib (V1 0 13) 400) <| nm (sw V1 9 (V1 0 13).toNatClampNeg p1) fun V2 =>
  ck (ib (V2 0 13) 400) <| nm (sw V2 10 (V2 0 13).toNatClampNeg p2) fun V3 =>
  ck (ib (V3 0 13) 400) <| nm (sw V3 11 (V3 0 13).toNatClampNeg p3) fun V4 =>
  ck (ib (V4 0 13) 400) <| nm (sw V4 12 (V4 0 13).toNatClampNeg p4) fun V5 =>
  ck (ib (V5 0 13) 400) <| nm (sw V5 13 (V5 0 13).toNatClampNeg p5) fun V6 =>
  ck (ib (V6 0 13) 400) <| nm (sw V6 14 (V6 0 13).toNatClampNeg p6) fun V7 =>
  nm (sw V7 0 13 ((V7 0 13) + 1)) fun V8 =>
  some ((V8 0 13) - 1, V8)
