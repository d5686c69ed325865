def lp_Mo_isNeeded_16 (x1 : Int32) (k84 : Int32 → Sto → RT) : Nat → Int32 → Int32 → Sto → RT
  | 0, _, _, _ => none
  | n + 1, x2, x3, V =>
    if (V 0 13) ≤ x3 then
      k84 x2 V
    else
    if x2 = 0 then
      ck (ib x3 400) <|
      ck (ib (V 9 x3.toNatClampNeg) 24) <|
      if (V 20 (V 9 x3.toNatClampNeg).toNatClampNeg) = 0 then
        lp_Mo_isNeeded_16 x1 k84 n 0 (x3 + 1) V
      else
      ck (ib x3 400) <|
      if (V 13 x3.toNatClampNeg) = x1 then
        ck (ib x3 400) <|
        if (V 10 x3.toNatClampNeg) = 1 then
          ck (ib x3 400) <|
          if (V 14 x3.toNatClampNeg) = 1 then
            lp_Mo_isNeeded_16 x1 k84 n 1 (x3 + 1) V
          else
          lp_Mo_isNeeded_16 x1 k84 n 0 (x3 + 1) V
        else
        lp_Mo_isNeeded_16 x1 k84 n 0 (x3 + 1) V
      else
      lp_Mo_isNeeded_16 x1 k84 n 0 (x3 + 1) V
    else
    lp_Mo_isNeeded_16 x1 k84 n 1 (x3 + 1) V
def f_Mo_isNeeded (V : Sto) (p1 : Int32) : RT :=
  jn (fun (z1 : Int32) =>
      lp_Mo_isNeeded_16 p1
        (fun y1 V1 =>
          if y1 = 0 then
            some (0, V1)
          else
          cl (f_Mo_isGiven V1 p1) fun r1 V2 =>
          if r1 = 0 then
            some (1, V2)
          else
          some (0, V2)) FU z1 0 V) fun j1 =>
  if p1 = (V 0 26) then
    j1 1
  else
  j1 0
def lp_Mo_helps_4 (x1 : Int32) (k93 : Int32 → Sto → RT) : Nat → Int32 → Int32 → Sto → RT
  | 0, _, _, _ => none
  | n + 1, x2, x3, V =>
    if (V 0 13) ≤ x3 then
      k93 x2 V
    else
    if x2 = 0 then
      ck (ib x3 400) <|
      jn (fun (z1 : Int32) =>
          if z1 = 0 then
            lp_Mo_helps_4 x1 k93 n 0 (x3 + 1) V
          else
          ck (ib x3 400) <|
          cl (f_Mo_isNeeded V (V 13 x3.toNatClampNeg)) fun r1 V1 =>
          if r1 = 0 then
            lp_Mo_helps_4 x1 k93 n 0 (x3 + 1) V1
          else
          lp_Mo_helps_4 x1 k93 n 1 (x3 + 1) V1) fun j1 =>
      if (V 9 x3.toNatClampNeg) = x1 then
        ck (ib x3 400) <|
        if (V 10 x3.toNatClampNeg) = 1 then
          j1 0
        else
        ck (ib x3 400) <|
        if (V 14 x3.toNatClampNeg) = 1 then
          j1 1
        else
        ck (ib x3 400) <|
        if (V 14 x3.toNatClampNeg) = 3 then
          j1 1
        else
        j1 0
      else
      j1 0
    else
    k93 x2 V
def f_Mo_helps (V : Sto) (p1 : Int32) : RT :=
  lp_Mo_helps_4 p1
    (fun y1 V2 =>
      ck (bb y1) <| some (y1, V2)) FU 0 0 V
def lp_Mo_bring_19 (x1 : Int32) (k69 : Int32 → Sto → RT) : Nat → Int32 → Int32 → Sto → RT
  | 0, _, _, _ => none
  | n + 1, x4, x5, V =>
    if x5 < 0 then
      k69 x4 V
    else
    ck (ib x5 24) <|
    if (V 1 x5.toNatClampNeg) = x1 then
      ck (ib x5 24) <|
      if (V 20 x5.toNatClampNeg) = 0 then
        cl (f_Mo_helps V x5) fun r1 V1 =>
        if r1 = 0 then
          lp_Mo_bring_19 x1 k69 n x4 (x5 + (-1)) V1
        else
        lp_Mo_bring_19 x1 k69 n x5 (x5 + (-1)) V1
      else
      lp_Mo_bring_19 x1 k69 n x4 (x5 + (-1)) V
    else
    lp_Mo_bring_19 x1 k69 n x4 (x5 + (-1)) V
def lp_Mo_bring_4 (x1 : Int32) (k98 : Int32 → Sto → RT) : Nat → Int32 → Int32 → Sto → RT
  | 0, _, _, _ => none
  | n + 1, x2, x3, V =>
    if x3 = 0 then
      k98 x2 V
    else
    lp_Mo_bring_19 x1
      (fun y1 V2 =>
        jn (fun (z1 : Int32) =>
            if z1 = 0 then
              lp_Mo_bring_4 x1 k98 n x2 z1 V2
            else
            ck (ib y1 24) <| nm (sw V2 20 y1.toNatClampNeg 1) fun V3 =>
            lp_Mo_bring_4 x1 k98 n 1 z1 V3) fun j1 =>
        if y1 = (-1) then
          j1 0
        else
        j1 1) FU (-1) ((V 0 1) - 1) V
def f_Mo_bring (V : Sto) (p1 : Int32) : RT :=
  lp_Mo_bring_4 p1
    (fun y2 V4 =>
      ck (bb y2) <| some (y2, V4)) FU 0 1 V
def lp_Mo_findIn_2 (k37 : Sto → RT) : Nat → Int32 → Sto → RT
  | 0, _, _ => none
  | n + 1, x1, V =>
    if (V 0 1) ≤ x1 then
      k37 V
    else
    ck (ib x1 24) <|
    if (V 1 x1.toNatClampNeg) = (-1) then
      ck (ib x1 24) <| nm (sw V 20 x1.toNatClampNeg 1) fun V2 =>
      lp_Mo_findIn_2 k37 n (x1 + 1) V2
    else
    ck (ib x1 24) <| nm (sw V 20 x1.toNatClampNeg 0) fun V1 =>
    lp_Mo_findIn_2 k37 n (x1 + 1) V1
def lp_Mo_findIn_47 (k76 : Int32 → Sto → RT) : Nat → Int32 → Int32 → Sto → RT
  | 0, _, _, _ => none
  | n + 1, x1, x2, V =>
    if 4 ≤ x2 then
      k76 x1 V
    else
    cl (f_Mo_bring V x2) fun r1 V4 =>
    if r1 = 0 then
      if x1 = 0 then
        lp_Mo_findIn_47 k76 n 0 (x2 + 1) V4
      else
      lp_Mo_findIn_47 k76 n 1 (x2 + 1) V4
    else
    lp_Mo_findIn_47 k76 n 1 (x2 + 1) V4
def lp_Mo_findIn_39 (k96 : Sto → RT) : Nat → Int32 → Sto → RT
  | 0, _, _ => none
  | n + 1, x1, V =>
    if x1 = 0 then
      k96 V
    else
    lp_Mo_findIn_47
      (fun y1 V5 =>
        if y1 = 0 then
          lp_Mo_findIn_39 k96 n 0 V5
        else
        if (V5 0 28) = 0 then
          lp_Mo_findIn_39 k96 n 0 V5
        else
        lp_Mo_findIn_39 k96 n 1 V5) FU 0 0 V
def f_Mo_findIn (V : Sto) : RT :=
  lp_Mo_findIn_2
    (fun V3 =>
      lp_Mo_findIn_39
        (fun V6 =>
          some (0, V6)) FU 1 V3) FU 0 V
