def lp_Mo_define_6 (k33 : Sto → RT) : Nat → Int32 → Sto → RT
  | 0, _, _ => none
  | n + 1, x2, V =>
    if 200 ≤ x2 then
      k33 V
    else
    ck (ib x2 200) <| nm (sw V 21 x2.toNatClampNeg (-1)) fun V1 =>
    ck (ib x2 200) <| nm (sw V1 22 x2.toNatClampNeg 0) fun V2 =>
    lp_Mo_define_6 k33 n (x2 + 1) V2
def lp_Mo_define_35 (k120 : Sto → RT) : Nat → Int32 → Sto → RT
  | 0, _, _ => none
  | n + 1, x2, V =>
    if (V 0 13) ≤ x2 then
      k120 V
    else
    ck (ib x2 400) <|
    ck (ib x2 400) <|
    ck (ib (V 9 x2.toNatClampNeg) 24) <|
    if (V 20 (V 9 x2.toNatClampNeg).toNatClampNeg) = 0 then
      lp_Mo_define_35 k120 n (x2 + 1) V
    else
    ck (ib x2 400) <|
    if (V 10 x2.toNatClampNeg) = 1 then
      lp_Mo_define_35 k120 n (x2 + 1) V
    else
    ck (ib x2 400) <|
    if (V 14 x2.toNatClampNeg) = 3 then
      ck (ib (V 13 x2.toNatClampNeg) 200) <|
      ck (ib x2 400) <|
      if (V 12 x2.toNatClampNeg) ≤ (V 22 (V 13 x2.toNatClampNeg).toNatClampNeg) then
        lp_Mo_define_35 k120 n (x2 + 1) V
      else
      ck (ib x2 400) <|
      ck (ib (V 13 x2.toNatClampNeg) 200) <| nm (sw V 22 (V 13 x2.toNatClampNeg).toNatClampNeg (V 12 x2.toNatClampNeg)) fun V4 =>
      lp_Mo_define_35 k120 n (x2 + 1) V4
    else
    lp_Mo_define_35 k120 n (x2 + 1) V
def lp_Mo_define_132 (x2 : Int32) (k303 : Int32 → Sto → RT) : Nat → Int32 → Int32 → Sto → RT
  | 0, _, _, _ => none
  | n + 1, x1, x3, V =>
    if (V 0 13) ≤ x3 then
      k303 x1 V
    else
    ck (ib x3 400) <|
    ck (ib x3 400) <|
    if (V 9 x3.toNatClampNeg) = x2 then
      ck (ib x2 24) <|
      if (V 20 x2.toNatClampNeg) = 0 then
        lp_Mo_define_132 x2 k303 n x1 (x3 + 1) V
      else
      ck (ib x3 400) <|
      if (V 10 x3.toNatClampNeg) = 1 then
        lp_Mo_define_132 x2 k303 n x1 (x3 + 1) V
      else
      ck (ib (V 13 x3.toNatClampNeg) 200) <|
      jn (fun (z1 : Int32) =>
          ck (ib x3 400) <|
          if (V 14 x3.toNatClampNeg) = 1 then
            jn (fun (z2 : Int32) =>
                if z1 = 0 then
                  ck (ib (V 13 x3.toNatClampNeg) 200) <| nm (sw V 21 (V 13 x3.toNatClampNeg).toNatClampNeg x3) fun V7 =>
                  lp_Mo_define_132 x2 k303 n z2 (x3 + 1) V7
                else
                ck (ib (V 13 x3.toNatClampNeg) 200) <|
                ck (ib (V 13 x3.toNatClampNeg) 200) <| nm (sw V 21 (V 13 x3.toNatClampNeg).toNatClampNeg (V 21 (V 13 x3.toNatClampNeg).toNatClampNeg)) fun V8 =>
                lp_Mo_define_132 x2 k303 n z2 (x3 + 1) V8) fun j2 =>
            if z1 = 0 then
              j2 x1
            else
            if x1 ≤ (V 13 x3.toNatClampNeg) then
              j2 x1
            else
            j2 (V 13 x3.toNatClampNeg)
          else
          ck (ib x3 400) <|
          if (V 14 x3.toNatClampNeg) = 2 then
            ck (ib (V 13 x3.toNatClampNeg) 200) <|
            if (V 21 (V 13 x3.toNatClampNeg).toNatClampNeg) = (-1) then
              ck (ib (V 13 x3.toNatClampNeg) 200) <| nm (sw V 21 (V 13 x3.toNatClampNeg).toNatClampNeg x3) fun V6 =>
              lp_Mo_define_132 x2 k303 n x1 (x3 + 1) V6
            else
            lp_Mo_define_132 x2 k303 n x1 (x3 + 1) V
          else
          lp_Mo_define_132 x2 k303 n x1 (x3 + 1) V) fun j1 =>
      if (V 21 (V 13 x3.toNatClampNeg).toNatClampNeg) = (-1) then
        j1 0
      else
      ck (ib (V 13 x3.toNatClampNeg) 200) <|
      ck (ib (V 21 (V 13 x3.toNatClampNeg).toNatClampNeg) 400) <|
      if (V 14 (V 21 (V 13 x3.toNatClampNeg).toNatClampNeg).toNatClampNeg) = 1 then
        j1 1
      else
      j1 0
    else
    lp_Mo_define_132 x2 k303 n x1 (x3 + 1) V
def lp_Mo_define_122 (k309 : Int32 → Sto → RT) : Nat → Int32 → Int32 → Sto → RT
  | 0, _, _, _ => none
  | n + 1, x1, x2, V =>
    if (V 0 1) ≤ x2 then
      k309 x1 V
    else
    lp_Mo_define_132 x2
      (fun y1 V9 =>
        lp_Mo_define_122 k309 n y1 (x2 + 1) V9) FU x1 0 V
def lp_Mo_define_311 (k385 : Sto → RT) : Nat → Int32 → Sto → RT
  | 0, _, _ => none
  | n + 1, x2, V =>
    if 200 ≤ x2 then
      k385 V
    else
    ck (ib x2 200) <|
    jn (fun (z3 : Int32) =>
        if z3 = 0 then
          ck (ib x2 200) <|
          if (V 22 x2.toNatClampNeg) ≤ 0 then
            lp_Mo_define_311 k385 n (x2 + 1) V
          else
          ck (ib x2 200) <| nm (sw V 21 x2.toNatClampNeg (-1)) fun V11 =>
          lp_Mo_define_311 k385 n (x2 + 1) V11
        else
        ck (ib x2 200) <| nm (sw V 22 x2.toNatClampNeg 0) fun V12 =>
        lp_Mo_define_311 k385 n (x2 + 1) V12) fun j3 =>
    if (V 21 x2.toNatClampNeg) = (-1) then
      j3 0
    else
    ck (ib x2 200) <|
    ck (ib (V 21 x2.toNatClampNeg) 400) <|
    if (V 14 (V 21 x2.toNatClampNeg).toNatClampNeg) = 1 then
      j3 1
    else
    j3 0
def f_Mo_define (V : Sto) : RT :=
  lp_Mo_define_6
    (fun V3 =>
      lp_Mo_define_35
        (fun V5 =>
          lp_Mo_define_122
            (fun y2 V10 =>
              lp_Mo_define_311
                (fun V13 =>
                  if y2 = 200 then
                    some (1, V13)
                  else
                  cl (f_Mo_fail V13 1 y2 (-1)) fun r1 V14 =>
                  if r1 = 0 then
                    some (0, V14)
                  else
                  some (1, V14)) FU 0 V10) FU 200 0 V5) FU 0 V3) FU 0 V
def f_Mo_itself (V : Sto) (p1 : Int32) : RT :=
  ck (ib p1 400) <|
  if (V 14 p1.toNatClampNeg) = 0 then
    some (p1, V)
  else
  ck (ib p1 400) <|
  ck (ib (V 13 p1.toNatClampNeg) 200) <|
  some (V 21 (V 13 p1.toNatClampNeg).toNatClampNeg, V)
def f_Mo_isCommon (V : Sto) (p1 : Int32) : RT :=
  ck (ib p1 400) <|
  if (V 14 p1.toNatClampNeg) = 0 then
    some (0, V)
  else
  ck (ib p1 400) <|
  ck (ib (V 13 p1.toNatClampNeg) 200) <|
  if (V 22 (V 13 p1.toNatClampNeg).toNatClampNeg) ≤ 0 then
    some (0, V)
  else
  some (1, V)
def f_Mo_sortOf (V : Sto) (p1 : Int32) : RT :=
  cl (f_Mo_isCommon V p1) fun r1 V1 =>
  if r1 = 0 then
    cl (f_Mo_itself V1 p1) fun r2 V2 =>
    if r2 = (-1) then
      ck (ib p1 400) <|
      if (V2 14 p1.toNatClampNeg) = 2 then
        some (2, V2)
      else
      some (0, V2)
    else
    ck (ib r2 400) <|
    if (V2 10 r2.toNatClampNeg) = 0 then
      some (1, V2)
    else
    some (2, V2)
  else
  some (3, V1)
def f_Mo_numberOf (V : Sto) (p1 : Int32) : RT :=
  cl (f_Mo_itself V p1) fun r1 V1 =>
  if r1 = (-1) then
    some (0, V1)
  else
  ck (ib r1 400) <|
  some (V1 12 r1.toNatClampNeg, V1)
def f_Mo_sectionOf (V : Sto) (p1 : Int32) : RT :=
  cl (f_Mo_sortOf V p1) fun r1 V1 =>
  if r1 = 1 then
    cl (f_Mo_itself V1 p1) fun r2 V2 =>
    ck (ib r2 400) <|
    some (V2 11 r2.toNatClampNeg, V2)
  else
  some ((-1), V1)
def f_Mo_reachBy (V : Sto) (p1 : Int32) : RT :=
  ck (ib p1 600) <|
  ck (ib p1 600) <|
  ck (ib (V 15 p1.toNatClampNeg) 96) <|
  if (V 25 (V 15 p1.toNatClampNeg).toNatClampNeg) = 0 then
    some (0, V)
  else
  cl (f_Mo_sectionOf V (V 18 p1.toNatClampNeg)) fun r1 V1 =>
  jn (fun (z1 : Int32) =>
      jn (fun (V3 : Sto) =>
          cl (f_Mo_isCommon V3 (V 18 p1.toNatClampNeg)) fun r2 V4 =>
          if r2 = 0 then
            ck (bb z1) <| some (z1, V4)
          else
          ck (ib (V 18 p1.toNatClampNeg) 400) <|
          ck (ib (V4 13 (V 18 p1.toNatClampNeg).toNatClampNeg) 200) <| nm (sw V4 23 (V4 13 (V 18 p1.toNatClampNeg).toNatClampNeg).toNatClampNeg 1) fun V5 =>
          ck (bb z1) <| some (z1, V5)) fun j2 =>
      if z1 = 0 then
        j2 V1
      else
      ck (ib r1 96) <| nm (sw V1 25 r1.toNatClampNeg 1) fun V2 =>
      j2 V2) fun j1 =>
  if r1 = (-1) then
    j1 0
  else
  ck (ib r1 96) <|
  if (V1 25 r1.toNatClampNeg) = 0 then
    j1 1
  else
  j1 0
