def f_Mo_mendOne (V : Sto) (p1 : Int32) : RT :=
  ck (ib p1 600) <|
  ck (ib (V 15 p1.toNatClampNeg) 96) <|
  ck (ib p1 600) <|
  ck (ib ((V 6 (V 15 p1.toNatClampNeg).toNatClampNeg) + ((V 16 p1.toNatClampNeg) / 4)) 100000) <|
  ck (ib p1 600) <|
  cl (f_Mo_meaning V (V 18 p1.toNatClampNeg)) fun r1 V1 =>
  ck (ib p1 600) <|
  ck (ib p1 600) <|
  if (V1 17 p1.toNatClampNeg) = 0 then
    ck (ib ((V 6 (V 15 p1.toNatClampNeg).toNatClampNeg) + ((V 16 p1.toNatClampNeg) / 4)) 100000) <| nm (sw V1 29 ((V 6 (V 15 p1.toNatClampNeg).toNatClampNeg) + ((V 16 p1.toNatClampNeg) / 4)).toNatClampNeg ((V 29 ((V 6 (V 15 p1.toNatClampNeg).toNatClampNeg) + ((V 16 p1.toNatClampNeg) / 4)).toNatClampNeg) + (r1 + (V1 19 p1.toNatClampNeg)))) fun V2 =>
    some (1, V2)
  else
  if (V1 17 p1.toNatClampNeg) = 1 then
    cl (f_Mo_placeAt V1 p1) fun r2 V3 =>
    ck (ib ((V 6 (V 15 p1.toNatClampNeg).toNatClampNeg) + ((V 16 p1.toNatClampNeg) / 4)) 100000) <| nm (sw V3 29 ((V 6 (V 15 p1.toNatClampNeg).toNatClampNeg) + ((V 16 p1.toNatClampNeg) / 4)).toNatClampNeg (((V 29 ((V 6 (V 15 p1.toNatClampNeg).toNatClampNeg) + ((V 16 p1.toNatClampNeg) / 4)).toNatClampNeg) + (r1 + (V1 19 p1.toNatClampNeg))) - r2)) fun V4 =>
    some (1, V4)
  else
  if (V1 17 p1.toNatClampNeg) = 2 then
    ck (ib ((V 6 (V 15 p1.toNatClampNeg).toNatClampNeg) + ((V 16 p1.toNatClampNeg) / 4)) 100000) <| nm (sw V1 29 ((V 6 (V 15 p1.toNatClampNeg).toNatClampNeg) + ((V 16 p1.toNatClampNeg) / 4)).toNatClampNeg (((V 29 ((V 6 (V 15 p1.toNatClampNeg).toNatClampNeg) + ((V 16 p1.toNatClampNeg) / 4)).toNatClampNeg) &&& (-65536)) ||| ((((r1 + (V1 19 p1.toNatClampNeg)) + 32768).toUInt32 >>> (Int32.toUInt32 16 &&& Int32.toUInt32 31)).toInt32))) fun V5 =>
    some (1, V5)
  else
  if (V1 17 p1.toNatClampNeg) = 3 then
    ck (ib ((V 6 (V 15 p1.toNatClampNeg).toNatClampNeg) + ((V 16 p1.toNatClampNeg) / 4)) 100000) <| nm (sw V1 29 ((V 6 (V 15 p1.toNatClampNeg).toNatClampNeg) + ((V 16 p1.toNatClampNeg) / 4)).toNatClampNeg (((V 29 ((V 6 (V 15 p1.toNatClampNeg).toNatClampNeg) + ((V 16 p1.toNatClampNeg) / 4)).toNatClampNeg) &&& (-65536)) ||| ((r1 + (V1 19 p1.toNatClampNeg)) &&& 65535))) fun V6 =>
    some (1, V6)
  else
  if (V1 17 p1.toNatClampNeg) = 4 then
    ck (ib p1 600) <|
    jn (fun (z1 : Int32) (V8 : Sto) =>
        cl (f_Mo_placeAt V8 p1) fun r4 V9 =>
        ck (ib ((V 6 (V 15 p1.toNatClampNeg).toNatClampNeg) + ((V 16 p1.toNatClampNeg) / 4)) 100000) <| nm (sw V9 29 ((V 6 (V 15 p1.toNatClampNeg).toNatClampNeg) + ((V 16 p1.toNatClampNeg) / 4)).toNatClampNeg (((V 29 ((V 6 (V 15 p1.toNatClampNeg).toNatClampNeg) + ((V 16 p1.toNatClampNeg) / 4)).toNatClampNeg) &&& (-65536)) ||| ((((z1 - r4) - 4) / 4) &&& 65535))) fun V10 =>
        some (1, V10)) fun j1 =>
    if (V1 30 p1.toNatClampNeg) = (-1) then
      j1 (r1 + (V1 19 p1.toNatClampNeg)) V1
    else
    ck (ib p1 600) <|
    cl (f_Mo_islandAt V1 (V1 30 p1.toNatClampNeg)) fun r3 V7 =>
    j1 r3 V7
  else
  if ((r1 + (V1 19 p1.toNatClampNeg)) - (r1 + (V1 19 p1.toNatClampNeg)) / 4 * 4) = 0 then
    ck (ib ((V 6 (V 15 p1.toNatClampNeg).toNatClampNeg) + ((V 16 p1.toNatClampNeg) / 4)) 100000) <| nm (sw V1 29 ((V 6 (V 15 p1.toNatClampNeg).toNatClampNeg) + ((V 16 p1.toNatClampNeg) / 4)).toNatClampNeg (((V 29 ((V 6 (V 15 p1.toNatClampNeg).toNatClampNeg) + ((V 16 p1.toNatClampNeg) / 4)).toNatClampNeg) &&& (-67108864)) ||| ((((r1 + (V1 19 p1.toNatClampNeg)).toUInt32 >>> (Int32.toUInt32 2 &&& Int32.toUInt32 31)).toInt32) &&& 67108863))) fun V11 =>
    some (1, V11)
  else
  cl (f_Mo_fail V1 5 (-1) p1) fun r5 V12 =>
  ck (bb r5) <| some (r5, V12)
def lp_Mo_mend_2 (k28 : Sto → RT) : Nat → Int32 → Sto → RT
  | 0, _, _ => none
  | n + 1, x1, V =>
    if (V 0 11) ≤ x1 then
      k28 V
    else
    ck (ib x1 100000) <|
    ck (ib x1 100000) <| nm (sw V 29 x1.toNatClampNeg (V 8 x1.toNatClampNeg)) fun V1 =>
    lp_Mo_mend_2 k28 n (x1 + 1) V1
def lp_Mo_mend_40 (x1 : Int32) (k74 : Sto → RT) (k82 : Sto → RT) : Nat → Int32 → Sto → RT
  | 0, _, _ => none
  | n + 1, x2, V =>
    cl (f_Mo_stays V x1) fun r1 V3 =>
    if r1 = 0 then
      k82 V3
    else
    if (V3 0 20) ≤ x2 then
      k82 V3
    else
    ck (ib x2 600) <|
    if (V3 15 x2.toNatClampNeg) = x1 then
      cl (f_Mo_mendOne V3 x2) fun r2 V4 =>
      if r2 = 0 then
        k74 V4
      else
      lp_Mo_mend_40 x1 k74 k82 n (x2 + 1) V4
    else
    lp_Mo_mend_40 x1 k74 k82 n (x2 + 1) V3
def lp_Mo_mend_30 (k74 : Sto → RT) (k88 : Sto → RT) : Nat → Int32 → Sto → RT
  | 0, _, _ => none
  | n + 1, x1, V =>
    if (V 0 3) ≤ x1 then
      k88 V
    else
    lp_Mo_mend_40 x1
      (fun V5 =>
        k74 V5)
      (fun V6 =>
        lp_Mo_mend_30 k74 k88 n (x1 + 1) V6) FU 0 V
def f_Mo_mend (V : Sto) : RT :=
  lp_Mo_mend_2
    (fun V2 =>
      lp_Mo_mend_30
        (fun V7 =>
          some (0, V7))
        (fun V8 =>
          some (1, V8)) FU 0 V2) FU 0 V
def f_Mo_link (V : Sto) (p1 : Int32) : RT :=
  cl (f_Mo_within V p1 0 1048576) fun r1 V1 =>
  jn (fun (z1 : Int32) =>
      cl (f_Mo_refuse V1 z1 0) fun r2 V2 =>
      if r2 = 0 then
        cl (f_Mo_told V2) fun r3 V3 =>
        nm (sw V3 0 33 p1) fun V4 =>
        cl (f_Mo_findIn V4) fun r4 V5 =>
        cl (f_Mo_define V5) fun r5 V6 =>
        jn (fun (z2 : Int32) (V8 : Sto) =>
            jn (fun (z4 : Int32) (V14 : Sto) =>
                ck (bb z4) <| nm (sw V14 0 29 z4) fun V15 =>
                if z4 = 0 then
                  some ((-1), V15)
                else
                some ((V15 0 34) - (V15 0 33), V15)) fun j3 =>
            if z2 = 0 then
              j3 z2 V8
            else
            cl (f_Mo_findLike V8) fun r7 V9 =>
            cl (f_Mo_findIslands V9) fun r8 V10 =>
            jn (fun (z3 : Int32) (V13 : Sto) =>
                j3 z3 V13) fun j4 =>
            if r8 = 0 then
              j4 0 V10
            else
            cl (f_Mo_checkFar V10) fun r9 V11 =>
            if r9 = 0 then
              j4 0 V11
            else
            cl (f_Mo_mend V11) fun r10 V12 =>
            if r10 = 0 then
              j4 0 V12
            else
            j4 1 V12) fun j2 =>
        if r5 = 0 then
          j2 0 V6
        else
        cl (f_Mo_reach V6) fun r6 V7 =>
        if r6 = 0 then
          j2 0 V7
        else
        j2 1 V7
      else
      some (0, V2)) fun j1 =>
  if r1 = 0 then
    j1 1
  else
  if (p1 - p1 / 4096 * 4096) = 0 then
    j1 0
  else
  j1 1
def f_Mo_fault (V : Sto) (p1 : Int32) : RT :=
  cl (f_Mo_within V p1 0 2) fun r1 V1 =>
  jn (fun (z1 : Int32) =>
      cl (f_Mo_refuse V1 z1 0) fun r2 V2 =>
      if r2 = 0 then
        if p1 = 0 then
          some (V2 0 30, V2)
        else
        if p1 = 1 then
          some (V2 0 31, V2)
        else
        some (V2 0 32, V2)
      else
      some (0, V2)) fun j1 =>
  if r1 = 0 then
    j1 1
  else
  j1 0
def f_Mo_isIn (V : Sto) (p1 : Int32) : RT :=
  jn (fun (z1 : Int32) =>
      if (V 0 29) = 0 then
        cl (f_Mo_refuse V z1 0) fun r1 V1 =>
        if r1 = 0 then
          ck (ib p1 24) <|
          ck (bb (V1 20 p1.toNatClampNeg)) <| some (V1 20 p1.toNatClampNeg, V1)
        else
        some (0, V1)
      else
      cl (f_Mo_within V p1 0 ((V 0 1) - 1)) fun r2 V2 =>
      if r2 = 0 then
        cl (f_Mo_refuse V2 z1 1) fun r4 V4 =>
        if r4 = 0 then
          ck (ib p1 24) <|
          ck (bb (V4 20 p1.toNatClampNeg)) <| some (V4 20 p1.toNatClampNeg, V4)
        else
        some (0, V4)
      else
      cl (f_Mo_refuse V2 z1 0) fun r3 V3 =>
      if r3 = 0 then
        ck (ib p1 24) <|
        ck (bb (V3 20 p1.toNatClampNeg)) <| some (V3 20 p1.toNatClampNeg, V3)
      else
      some (0, V3)) fun j1 =>
  if (V 0 29) = 0 then
    j1 1
  else
  j1 0
def f_Mo_address (V : Sto) (p1 : Int32) : RT :=
  jn (fun (z1 : Int32) =>
      jn (fun (z2 : Int32) (V2 : Sto) =>
          cl (f_Mo_refuse V2 z1 z2) fun r2 V3 =>
          if r2 = 0 then
            ck (ib p1 96) <|
            if (V3 25 p1.toNatClampNeg) = 0 then
              some ((-1), V3)
            else
            ck (ib p1 96) <|
            some (V3 27 p1.toNatClampNeg, V3)
          else
          some (0, V3)) fun j2 =>
      if (V 0 29) = 0 then
        j2 0 V
      else
      cl (f_Mo_within V p1 0 ((V 0 3) - 1)) fun r1 V1 =>
      if r1 = 0 then
        j2 1 V1
      else
      j2 0 V1) fun j1 =>
  if (V 0 29) = 0 then
    j1 1
  else
  j1 0
def f_Mo_like (V : Sto) (p1 : Int32) : RT :=
  jn (fun (z1 : Int32) =>
      jn (fun (z2 : Int32) (V2 : Sto) =>
          cl (f_Mo_refuse V2 z1 z2) fun r2 V3 =>
          if r2 = 0 then
            ck (ib p1 96) <|
            if (V3 25 p1.toNatClampNeg) = 0 then
              some ((-1), V3)
            else
            ck (ib p1 96) <|
            some (V3 26 p1.toNatClampNeg, V3)
          else
          some (0, V3)) fun j2 =>
      if (V 0 29) = 0 then
        j2 0 V
      else
      cl (f_Mo_within V p1 0 ((V 0 3) - 1)) fun r1 V1 =>
      if r1 = 0 then
        j2 1 V1
      else
      j2 0 V1) fun j1 =>
  if (V 0 29) = 0 then
    j1 1
  else
  j1 0
