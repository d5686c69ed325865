def lp_Rc_spread_16 (k70 : Sto → RT) : Nat → Int32 → Sto → RT
  | 0, _, _ => none
  | n + 1, x2, V =>
    if (V 2 0) ≤ x2 then
      k70 V
    else
    ck (ib x2 96) <|
    if (V 20 x2.toNatClampNeg) = 0 then
      lp_Rc_spread_16 k70 n (x2 + 1) V
    else
    ck (ib x2 96) <|
    ck (ib (V 15 x2.toNatClampNeg) 24) <|
    if (V 13 (V 15 x2.toNatClampNeg).toNatClampNeg) = 0 then
      lp_Rc_spread_16 k70 n (x2 + 1) V
    else
    cl (f_Rc_find V x2) fun r3 V4 =>
    lp_Rc_spread_16 k70 n (x2 + 1) V4
def lp_Rc_spread_72 (k102 : Sto → RT) : Nat → Int32 → Sto → RT
  | 0, _, _ => none
  | n + 1, x2, V =>
    if (V 7 6) ≤ x2 then
      k102 V
    else
    if 96 ≤ x2 then
      k102 V
    else
    ck (ib x2 96) <|
    cl (f_Rc_spreadFrom V (V 45 x2.toNatClampNeg)) fun r4 V6 =>
    lp_Rc_spread_72 k102 n (x2 + 1) V6
def f_Rc_spread (V : Sto) (p1 : Int32) : RT :=
  cl (f_Rc_forget V) fun r1 V1 =>
  jn (fun (V3 : Sto) =>
      lp_Rc_spread_16
        (fun V5 =>
          lp_Rc_spread_72
            (fun V7 =>
              some (0, V7)) FU 0 V5) FU 0 V3) fun j1 =>
  if p1 = (-1) then
    j1 V1
  else
  cl (f_Rc_find V1 p1) fun r2 V2 =>
  j1 V2
def lp_fill33_5 (x1 : Int32) (x3 : Int32) (k20 : Sto → RT) : Nat → Int32 → Sto → RT
  | 0, _, _ => none
  | n + 1, x2, V =>
    if x3 ≤ x2 then
      k20 V
    else
    ck (ib x2 97) <| nm (sw V 33 x2.toNatClampNeg x1) fun V1 =>
    lp_fill33_5 x1 x3 k20 n (x2 + 1) V1
def f_fill33 (V : Sto) (p1 : Int32) : RT :=
  lp_fill33_5 p1 (nI 97)
    (fun V2 =>
      some (0, V2)) FU 0 V
def lp_Re_putInOrder_10 (k41 : Sto → RT) : Nat → Int32 → Sto → RT
  | 0, _, _ => none
  | n + 1, x2, V =>
    if (V 4 0) ≤ x2 then
      k41 V
    else
    ck (ib x2 600) <|
    ck (ib ((V 27 x2.toNatClampNeg) + 1) 97) <|
    ck (ib ((V 27 x2.toNatClampNeg) + 1) 97) <| nm (sw V 33 ((V 27 x2.toNatClampNeg) + 1).toNatClampNeg ((V 33 ((V 27 x2.toNatClampNeg) + 1).toNatClampNeg) + 1)) fun V2 =>
    lp_Re_putInOrder_10 k41 n (x2 + 1) V2
def lp_Re_putInOrder_43 (x1 : Int32) (k83 : Sto → RT) : Nat → Int32 → Sto → RT
  | 0, _, _ => none
  | n + 1, x2, V =>
    if x1 ≤ x2 then
      k83 V
    else
    ck (ib (x2 + 1) 97) <|
    ck (ib x2 97) <|
    ck (ib (x2 + 1) 97) <| nm (sw V 33 (x2 + 1).toNatClampNeg ((V 33 (x2 + 1).toNatClampNeg) + (V 33 x2.toNatClampNeg))) fun V4 =>
    ck (ib x2 97) <|
    ck (ib x2 96) <| nm (sw V4 34 x2.toNatClampNeg (V4 33 x2.toNatClampNeg)) fun V5 =>
    lp_Re_putInOrder_43 x1 k83 n (x2 + 1) V5
def lp_Re_putInOrder_85 (k128 : Sto → RT) : Nat → Int32 → Sto → RT
  | 0, _, _ => none
  | n + 1, x2, V =>
    if (V 4 0) ≤ x2 then
      k128 V
    else
    ck (ib x2 600) <|
    ck (ib (V 27 x2.toNatClampNeg) 96) <|
    ck (ib (V 34 (V 27 x2.toNatClampNeg).toNatClampNeg) 600) <| nm (sw V 32 (V 34 (V 27 x2.toNatClampNeg).toNatClampNeg).toNatClampNeg x2) fun V7 =>
    ck (ib (V 27 x2.toNatClampNeg) 96) <|
    ck (ib (V 27 x2.toNatClampNeg) 96) <| nm (sw V7 34 (V 27 x2.toNatClampNeg).toNatClampNeg ((V7 34 (V 27 x2.toNatClampNeg).toNatClampNeg) + 1)) fun V8 =>
    lp_Re_putInOrder_85 k128 n (x2 + 1) V8
def f_Re_putInOrder (V : Sto) (p1 : Int32) : RT :=
  cl (f_fill33 V 0) fun r1 V1 =>
  lp_Re_putInOrder_10
    (fun V3 =>
      lp_Re_putInOrder_43 p1
        (fun V6 =>
          lp_Re_putInOrder_85
            (fun V9 =>
              some (0, V9)) FU 0 V6) FU 0 V3) FU 0 V1
def f_Ly_fails (V : Sto) (p1 : Int32) (p2 : Int32) (p3 : Int32) : RT :=
  nm (sw V 0 15 p1) fun V1 =>
  nm (sw V1 0 16 p2) fun V2 =>
  nm (sw V2 0 17 p3) fun V3 =>
  some (0, V3)
def f_Ly_linksNames (V : Sto) : RT :=
  cl (f_Re_putInOrder V (V 2 0)) fun r1 V1 =>
  cl (f_Ar_bringIn V1 (V1 0 11) (V1 0 13)) fun r2 V2 =>
  cl (f_Na_settle V2) fun r3 V3 =>
  if (V3 6 5) = (-1) then
    if (V3 0 11) = (-1) then
      jn (fun (z1 : Int32) (V5 : Sto) =>
          cl (f_Rc_spread V5 z1) fun r5 V6 =>
          cl (f_Rc_firstMissing V6) fun r6 V7 =>
          if r6 = (-1) then
            some (1, V7)
          else
          ck (ib r6 600) <|
          ck (ib (V7 30 r6.toNatClampNeg) 400) <|
          cl (f_Ly_fails V7 2 (V7 22 (V7 30 r6.toNatClampNeg).toNatClampNeg) r6) fun r7 V8 =>
          ck (bb r7) <| some (r7, V8)) fun j1 =>
      if (V3 0 11) = (-1) then
        j1 (-1) V3
      else
      cl (f_Na_sectionOf V3 (V3 0 11)) fun r4 V4 =>
      j1 r4 V4
    else
    cl (f_Na_isDefined V3 (V3 0 11)) fun r8 V9 =>
    if r8 = 0 then
      cl (f_Ly_fails V9 2 (V9 0 11) (-1)) fun r13 V15 =>
      ck (bb r13) <| some (r13, V15)
    else
    jn (fun (z2 : Int32) (V11 : Sto) =>
        cl (f_Rc_spread V11 z2) fun r10 V12 =>
        cl (f_Rc_firstMissing V12) fun r11 V13 =>
        if r11 = (-1) then
          some (1, V13)
        else
        ck (ib r11 600) <|
        ck (ib (V13 30 r11.toNatClampNeg) 400) <|
        cl (f_Ly_fails V13 2 (V13 22 (V13 30 r11.toNatClampNeg).toNatClampNeg) r11) fun r12 V14 =>
        ck (bb r12) <| some (r12, V14)) fun j2 =>
    if (V9 0 11) = (-1) then
      j2 (-1) V9
    else
    cl (f_Na_sectionOf V9 (V9 0 11)) fun r9 V10 =>
    j2 r9 V10
  else
  cl (f_Ly_fails V3 1 (V3 6 5) (-1)) fun r14 V16 =>
  ck (bb r14) <| some (r14, V16)
def f_Fo_isSame (V : Sto) (p1 : Int32) (p2 : Int32) : RT :=
  ck (ib p1 600) <|
  ck (ib p2 600) <|
  ck (ib p1 600) <|
  ck (ib p2 600) <|
  if (V 28 p1.toNatClampNeg) = (V 28 p2.toNatClampNeg) then
    ck (ib p1 600) <|
    ck (ib p2 600) <|
    if (V 29 p1.toNatClampNeg) = (V 29 p2.toNatClampNeg) then
      ck (ib p1 600) <|
      ck (ib p2 600) <|
      if (V 31 p1.toNatClampNeg) = (V 31 p2.toNatClampNeg) then
        ck (ib (V 30 p1.toNatClampNeg) 400) <|
        ck (ib (V 30 p2.toNatClampNeg) 400) <|
        if (V 40 (V 30 p1.toNatClampNeg).toNatClampNeg) = (V 40 (V 30 p2.toNatClampNeg).toNatClampNeg) then
          ck (ib (V 30 p1.toNatClampNeg) 400) <|
          ck (ib (V 30 p2.toNatClampNeg) 400) <|
          if (V 42 (V 30 p1.toNatClampNeg).toNatClampNeg) = (V 42 (V 30 p2.toNatClampNeg).toNatClampNeg) then
            some (1, V)
          else
          some (0, V)
        else
        some (0, V)
      else
      some (0, V)
    else
    some (0, V)
  else
  some (0, V)
def lp_Fo_hasSameRelocations_23 (x1 : Int32) (x2 : Int32) (k60 : Sto → RT) (k68 : Sto → RT) : Nat → Int32 → Sto → RT
  | 0, _, _ => none
  | n + 1, x3, V =>
    cl (f_Re_countOf V x1) fun r3 V3 =>
    if r3 ≤ x3 then
      k68 V3
    else
    cl (f_Re_pick V3 x1 x3) fun r4 V4 =>
    cl (f_Re_pick V4 x2 x3) fun r5 V5 =>
    cl (f_Fo_isSame V5 r4 r5) fun r6 V6 =>
    if r6 = 0 then
      k60 V6
    else
    lp_Fo_hasSameRelocations_23 x1 x2 k60 k68 n (x3 + 1) V6
def f_Fo_hasSameRelocations (V : Sto) (p1 : Int32) (p2 : Int32) : RT :=
  cl (f_Re_countOf V p1) fun r1 V1 =>
  cl (f_Re_countOf V1 p2) fun r2 V2 =>
  if r1 = r2 then
    lp_Fo_hasSameRelocations_23 p1 p2
      (fun V7 =>
        some (0, V7))
      (fun V8 =>
        some (1, V8)) FU 0 V2
  else
  some (0, V2)
def f_Se_read (V : Sto) (p1 : Int32) (p2 : Int32) : RT :=
  ck (ib p1 96) <|
  ck (ib ((V 19 p1.toNatClampNeg) + (p2 / 4)) ((V 1000 14).toNatClampNeg)) <|
  some (V 14 ((V 19 p1.toNatClampNeg) + (p2 / 4)).toNatClampNeg, V)
def lp_Fo_hasSameWords_2 (x1 : Int32) (x2 : Int32) (k36 : Sto → RT) (k44 : Sto → RT) : Nat → Int32 → Sto → RT
  | 0, _, _ => none
  | n + 1, x3, V =>
    ck (ib x1 96) <|
    if (V 17 x1.toNatClampNeg) ≤ x3 then
      k44 V
    else
    cl (f_Se_read V x1 x3) fun r1 V1 =>
    cl (f_Se_read V1 x2 x3) fun r2 V2 =>
    if r1 = r2 then
      lp_Fo_hasSameWords_2 x1 x2 k36 k44 n (x3 + 4) V2
    else
    k36 V2
def f_Fo_hasSameWords (V : Sto) (p1 : Int32) (p2 : Int32) : RT :=
  lp_Fo_hasSameWords_2 p1 p2
    (fun V3 =>
      some (0, V3))
    (fun V4 =>
      some (1, V4)) FU 0 V
def f_Fo_looksSame (V : Sto) (p1 : Int32) (p2 : Int32) : RT :=
  ck (ib p1 96) <|
  ck (ib p2 96) <|
  if (V 17 p1.toNatClampNeg) = (V 17 p2.toNatClampNeg) then
    ck (ib p1 96) <|
    ck (ib p2 96) <|
    if (V 18 p1.toNatClampNeg) = (V 18 p2.toNatClampNeg) then
      cl (f_Fo_hasSameWords V p1 p2) fun r1 V1 =>
      if r1 = 0 then
        some (0, V1)
      else
      cl (f_Fo_hasSameRelocations V1 p1 p2) fun r2 V2 =>
      if r2 = 0 then
        some (0, V2)
      else
      some (1, V2)
    else
    some (0, V)
  else
  some (0, V)
