def f_Mo_sameTarget (V : Sto) (p1 : Int32) (p2 : Int32) : RT :=
  ck (ib p1 600) <|
  ck (ib p2 600) <|
  cl (f_Mo_sortOf V (V 18 p1.toNatClampNeg)) fun r1 V1 =>
  cl (f_Mo_sortOf V1 (V 18 p2.toNatClampNeg)) fun r2 V2 =>
  if r1 = r2 then
    if r1 = 3 then
      ck (ib (V 18 p1.toNatClampNeg) 400) <|
      ck (ib (V 18 p2.toNatClampNeg) 400) <|
      if (V2 13 (V 18 p1.toNatClampNeg).toNatClampNeg) = (V2 13 (V 18 p2.toNatClampNeg).toNatClampNeg) then
        ck (ib p1 600) <|
        ck (ib p2 600) <|
        if (V2 19 p1.toNatClampNeg) = (V2 19 p2.toNatClampNeg) then
          some (1, V2)
        else
        some (0, V2)
      else
      some (0, V2)
    else
    cl (f_Mo_numberOf V2 (V 18 p1.toNatClampNeg)) fun r3 V3 =>
    ck (ib p1 600) <|
    cl (f_Mo_numberOf V3 (V 18 p2.toNatClampNeg)) fun r4 V4 =>
    ck (ib p2 600) <|
    jn (fun (z1 : Int32) =>
        if z1 = 0 then
          some (0, V4)
        else
        if r1 = 2 then
          some (1, V4)
        else
        cl (f_Mo_sectionOf V4 (V 18 p1.toNatClampNeg)) fun r5 V5 =>
        ck (ib r5 96) <|
        cl (f_Mo_sectionOf V5 (V 18 p2.toNatClampNeg)) fun r6 V6 =>
        ck (ib r6 96) <|
        if (V5 26 r5.toNatClampNeg) = (V6 26 r6.toNatClampNeg) then
          some (1, V6)
        else
        some (0, V6)) fun j1 =>
    if (r3 + (V3 19 p1.toNatClampNeg)) = (r4 + (V4 19 p2.toNatClampNeg)) then
      j1 1
    else
    j1 0
  else
  some (0, V2)
def lp_Mo_needy_12 (x1 : Int32) (k85 : Int32 → Sto → RT) (k93 : Sto → RT) : Nat → Int32 → Sto → RT
  | 0, _, _ => none
  | n + 1, x2, V =>
    if (V 0 20) ≤ x2 then
      k93 V
    else
    ck (ib x2 600) <|
    if (V 15 x2.toNatClampNeg) = x1 then
      ck (ib x2 600) <|
      if (V 17 x2.toNatClampNeg) = 4 then
        cl (f_Mo_stays V x1) fun r1 V1 =>
        if r1 = 0 then
          lp_Mo_needy_12 x1 k85 k93 n (x2 + 1) V1
        else
        ck (ib x1 96) <|
        if (V1 3 x1.toNatClampNeg) = 0 then
          ck (ib x2 600) <|
          if (V1 30 x2.toNatClampNeg) = (-1) then
            cl (f_Mo_isNearTarget V1 x2) fun r2 V2 =>
            if r2 = 0 then
              k85 x2 V2
            else
            lp_Mo_needy_12 x1 k85 k93 n (x2 + 1) V2
          else
          lp_Mo_needy_12 x1 k85 k93 n (x2 + 1) V1
        else
        lp_Mo_needy_12 x1 k85 k93 n (x2 + 1) V1
      else
      lp_Mo_needy_12 x1 k85 k93 n (x2 + 1) V
    else
    lp_Mo_needy_12 x1 k85 k93 n (x2 + 1) V
def lp_Mo_needy_2 (k85 : Int32 → Sto → RT) (k99 : Sto → RT) : Nat → Int32 → Sto → RT
  | 0, _, _ => none
  | n + 1, x1, V =>
    if (V 0 3) ≤ x1 then
      k99 V
    else
    lp_Mo_needy_12 x1
      (fun y1 V3 =>
        k85 y1 V3)
      (fun V4 =>
        lp_Mo_needy_2 k85 k99 n (x1 + 1) V4) FU 0 V
def f_Mo_needy (V : Sto) : RT :=
  lp_Mo_needy_2
    (fun y2 V5 =>
      some (y2, V5))
    (fun V6 =>
      some ((-1), V6)) FU 0 V
def lp_Mo_findIslands_17 (k38 : Sto → RT) : Nat → Int32 → Sto → RT
  | 0, _, _ => none
  | n + 1, x1, V =>
    if (V 0 20) ≤ x1 then
      k38 V
    else
    ck (ib x1 600) <| nm (sw V 30 x1.toNatClampNeg (-1)) fun V4 =>
    lp_Mo_findIslands_17 k38 n (x1 + 1) V4
def lp_Mo_findIslands_54 (x1 : Int32) (k108 : Sto → RT) : Nat → Int32 → Sto → RT
  | 0, _, _ => none
  | n + 1, x2, V =>
    if (V 0 47) ≤ x2 then
      k108 V
    else
    ck (ib x1 600) <|
    if (V 30 x1.toNatClampNeg) = (-1) then
      ck (ib x2 32) <|
      cl (f_Mo_sameTarget V (V 31 x2.toNatClampNeg) x1) fun r3 V9 =>
      if r3 = 0 then
        ck (ib x1 600) <|
        ck (ib x1 600) <| nm (sw V9 30 x1.toNatClampNeg (V9 30 x1.toNatClampNeg)) fun V10 =>
        lp_Mo_findIslands_54 x1 k108 n (x2 + 1) V10
      else
      ck (ib x1 600) <| nm (sw V9 30 x1.toNatClampNeg x2) fun V11 =>
      lp_Mo_findIslands_54 x1 k108 n (x2 + 1) V11
    else
    ck (ib x1 600) <|
    ck (ib x1 600) <| nm (sw V 30 x1.toNatClampNeg (V 30 x1.toNatClampNeg)) fun V8 =>
    lp_Mo_findIslands_54 x1 k108 n (x2 + 1) V8
def lp_Mo_findIslands_47 (k127 : Sto → RT) (k177 : Sto → RT) : Nat → Int32 → Sto → RT
  | 0, _, _ => none
  | n + 1, x1, V =>
    if x1 = (-1) then
      k177 V
    else
    lp_Mo_findIslands_54 x1
      (fun V12 =>
        ck (ib x1 600) <|
        if (V12 30 x1.toNatClampNeg) = (-1) then
          if (V12 0 47) = 32 then
            k127 V12
          else
          ck (ib (V12 0 47) 32) <| nm (sw V12 31 (V12 0 47).toNatClampNeg x1) fun V15 =>
          ck (ib x1 600) <| nm (sw V15 30 x1.toNatClampNeg (V15 0 47)) fun V16 =>
          nm (sw V16 0 47 ((V16 0 47) + 1)) fun V17 =>
          cl (f_Mo_lay V17) fun r6 V18 =>
          cl (f_Mo_needy V18) fun r7 V19 =>
          lp_Mo_findIslands_47 k127 k177 n r7 V19
        else
        cl (f_Mo_lay V12) fun r4 V13 =>
        cl (f_Mo_needy V13) fun r5 V14 =>
        lp_Mo_findIslands_47 k127 k177 n r5 V14) FU 0 V
def f_Mo_findIslands (V : Sto) : RT :=
  nm (sw V 0 47 0) fun V1 =>
  nm (sw V1 0 35 0) fun V2 =>
  nm (sw V2 0 49 (-1)) fun V3 =>
  lp_Mo_findIslands_17
    (fun V5 =>
      cl (f_Mo_lay V5) fun r1 V6 =>
      cl (f_Mo_needy V6) fun r2 V7 =>
      lp_Mo_findIslands_47
        (fun V20 =>
          cl (f_Mo_fail V20 4 (-1) (-1)) fun r8 V21 =>
          ck (bb r8) <| some (r8, V21))
        (fun V22 =>
          some (1, V22)) FU r2 V7) FU 0 V3
def lp_Mo_checkFar_12 (x1 : Int32) (k125 : Int32 → Sto → RT) (k139 : Sto → RT) : Nat → Int32 → Sto → RT
  | 0, _, _ => none
  | n + 1, x2, V =>
    if (V 0 20) ≤ x2 then
      k139 V
    else
    ck (ib x2 600) <|
    if (V 15 x2.toNatClampNeg) = x1 then
      ck (ib x2 600) <|
      if (V 17 x2.toNatClampNeg) = 4 then
        cl (f_Mo_stays V x1) fun r1 V1 =>
        if r1 = 0 then
          lp_Mo_checkFar_12 x1 k125 k139 n (x2 + 1) V1
        else
        ck (ib x2 600) <|
        if (V1 30 x2.toNatClampNeg) = (-1) then
          ck (ib x1 96) <|
          if (V1 3 x1.toNatClampNeg) = 1 then
            cl (f_Mo_isNearTarget V1 x2) fun r2 V2 =>
            if r2 = 0 then
              k125 x2 V2
            else
            lp_Mo_checkFar_12 x1 k125 k139 n (x2 + 1) V2
          else
          lp_Mo_checkFar_12 x1 k125 k139 n (x2 + 1) V1
        else
        ck (ib x2 600) <|
        cl (f_Mo_islandAt V1 (V1 30 x2.toNatClampNeg)) fun r3 V3 =>
        cl (f_Mo_placeAt V3 x2) fun r4 V4 =>
        cl (f_Mo_isNear V4 ((r3.toInt64 - r4.toInt64) - 4)) fun r5 V5 =>
        if r5 = 0 then
          k125 x2 V5
        else
        lp_Mo_checkFar_12 x1 k125 k139 n (x2 + 1) V5
      else
      lp_Mo_checkFar_12 x1 k125 k139 n (x2 + 1) V
    else
    lp_Mo_checkFar_12 x1 k125 k139 n (x2 + 1) V
def lp_Mo_checkFar_2 (k125 : Int32 → Sto → RT) (k145 : Sto → RT) : Nat → Int32 → Sto → RT
  | 0, _, _ => none
  | n + 1, x1, V =>
    if (V 0 3) ≤ x1 then
      k145 V
    else
    lp_Mo_checkFar_12 x1
      (fun y1 V6 =>
        k125 y1 V6)
      (fun V7 =>
        lp_Mo_checkFar_2 k125 k145 n (x1 + 1) V7) FU 0 V
def f_Mo_checkFar (V : Sto) : RT :=
  lp_Mo_checkFar_2
    (fun y2 V8 =>
      cl (f_Mo_fail V8 3 (-1) y2) fun r6 V9 =>
      ck (bb r6) <| some (r6, V9))
    (fun V10 =>
      some (1, V10)) FU 0 V
