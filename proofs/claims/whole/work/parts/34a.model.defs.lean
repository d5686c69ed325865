def lp_Mo_reach_2 (k57 : Sto → RT) : Nat → Int32 → Sto → RT
  | 0, _, _ => none
  | n + 1, x1, V =>
    if (V 0 3) ≤ x1 then
      k57 V
    else
    ck (ib x1 96) <|
    if (V 7 x1.toNatClampNeg) = 0 then
      ck (ib x1 96) <| nm (sw V 25 x1.toNatClampNeg 0) fun V1 =>
      ck (ib x1 96) <| nm (sw V1 26 x1.toNatClampNeg x1) fun V2 =>
      lp_Mo_reach_2 k57 n (x1 + 1) V2
    else
    ck (ib x1 96) <|
    ck (ib (V 2 x1.toNatClampNeg) 24) <|
    if (V 20 (V 2 x1.toNatClampNeg).toNatClampNeg) = 0 then
      ck (ib x1 96) <| nm (sw V 25 x1.toNatClampNeg 0) fun V3 =>
      ck (ib x1 96) <| nm (sw V3 26 x1.toNatClampNeg x1) fun V4 =>
      lp_Mo_reach_2 k57 n (x1 + 1) V4
    else
    ck (ib x1 96) <| nm (sw V 25 x1.toNatClampNeg 1) fun V5 =>
    ck (ib x1 96) <| nm (sw V5 26 x1.toNatClampNeg x1) fun V6 =>
    lp_Mo_reach_2 k57 n (x1 + 1) V6
def lp_Mo_reach_59 (k79 : Sto → RT) : Nat → Int32 → Sto → RT
  | 0, _, _ => none
  | n + 1, x1, V =>
    if 200 ≤ x1 then
      k79 V
    else
    ck (ib x1 200) <| nm (sw V 23 x1.toNatClampNeg 0) fun V8 =>
    lp_Mo_reach_59 k79 n (x1 + 1) V8
def lp_Mo_reach_169 (k201 : Int32 → Sto → RT) : Nat → Int32 → Int32 → Sto → RT
  | 0, _, _, _ => none
  | n + 1, x1, x2, V =>
    if (V 0 20) ≤ x2 then
      k201 x1 V
    else
    cl (f_Mo_reachBy V x2) fun r1 V10 =>
    if r1 = 0 then
      if x1 = 0 then
        lp_Mo_reach_169 k201 n 0 (x2 + 1) V10
      else
      lp_Mo_reach_169 k201 n 1 (x2 + 1) V10
    else
    lp_Mo_reach_169 k201 n 1 (x2 + 1) V10
def lp_Mo_reach_161 (k204 : Sto → RT) : Nat → Int32 → Sto → RT
  | 0, _, _ => none
  | n + 1, x1, V =>
    if x1 = 0 then
      k204 V
    else
    lp_Mo_reach_169
      (fun y1 V11 =>
        lp_Mo_reach_161 k204 n y1 V11) FU 0 0 V
def lp_Mo_reach_216 (x2 : Int32) (k256 : Int32 → Sto → RT) (k280 : Sto → RT) : Nat → Int32 → Sto → RT
  | 0, _, _ => none
  | n + 1, x3, V =>
    if (V 0 20) ≤ x3 then
      k280 V
    else
    ck (ib x2 96) <|
    if (V 25 x2.toNatClampNeg) = 0 then
      lp_Mo_reach_216 x2 k256 k280 n (x3 + 1) V
    else
    ck (ib x3 600) <|
    if (V 15 x3.toNatClampNeg) = x2 then
      ck (ib x3 600) <|
      cl (f_Mo_sortOf V (V 18 x3.toNatClampNeg)) fun r2 V13 =>
      if r2 = 0 then
        k256 x3 V13
      else
      lp_Mo_reach_216 x2 k256 k280 n (x3 + 1) V13
    else
    lp_Mo_reach_216 x2 k256 k280 n (x3 + 1) V
def lp_Mo_reach_206 (k256 : Int32 → Sto → RT) (k286 : Sto → RT) : Nat → Int32 → Sto → RT
  | 0, _, _ => none
  | n + 1, x2, V =>
    if (V 0 3) ≤ x2 then
      k286 V
    else
    lp_Mo_reach_216 x2
      (fun y2 V14 =>
        k256 y2 V14)
      (fun V15 =>
        lp_Mo_reach_206 k256 k286 n (x2 + 1) V15) FU 0 V
def f_Mo_reach (V : Sto) : RT :=
  lp_Mo_reach_2
    (fun V7 =>
      lp_Mo_reach_59
        (fun V9 =>
          if (V9 0 26) = (-1) then
            lp_Mo_reach_161
              (fun V12 =>
                lp_Mo_reach_206
                  (fun y3 V16 =>
                    ck (ib y3 600) <|
                    ck (ib (V16 18 y3.toNatClampNeg) 400) <|
                    cl (f_Mo_fail V16 2 (V16 13 (V16 18 y3.toNatClampNeg).toNatClampNeg) y3) fun r3 V17 =>
                    ck (bb r3) <| some (r3, V17))
                  (fun V18 =>
                    some (1, V18)) FU 0 V12) FU 1 V9
          else
          ck (ib (V9 0 26) 200) <|
          if (V9 21 (V9 0 26).toNatClampNeg) = (-1) then
            ck (ib (V9 0 26) 200) <|
            if (V9 22 (V9 0 26).toNatClampNeg) = 0 then
              cl (f_Mo_fail V9 2 (V9 0 26) (-1)) fun r6 V31 =>
              ck (bb r6) <| some (r6, V31)
            else
            ck (ib (V9 0 26) 200) <|
            jn (fun (V26 : Sto) =>
                lp_Mo_reach_161
                  (fun V27 =>
                    lp_Mo_reach_206
                      (fun y5 V28 =>
                        ck (ib y5 600) <|
                        ck (ib (V28 18 y5.toNatClampNeg) 400) <|
                        cl (f_Mo_fail V28 2 (V28 13 (V28 18 y5.toNatClampNeg).toNatClampNeg) y5) fun r5 V29 =>
                        ck (bb r5) <| some (r5, V29))
                      (fun V30 =>
                        some (1, V30)) FU 0 V27) FU 1 V26) fun j2 =>
            if (V9 21 (V9 0 26).toNatClampNeg) = (-1) then
              j2 V9
            else
            ck (ib (V9 21 (V9 0 26).toNatClampNeg) 400) <|
            if (V9 10 (V9 21 (V9 0 26).toNatClampNeg).toNatClampNeg) = 0 then
              ck (ib (V9 21 (V9 0 26).toNatClampNeg) 400) <|
              ck (ib (V9 11 (V9 21 (V9 0 26).toNatClampNeg).toNatClampNeg) 96) <| nm (sw V9 25 (V9 11 (V9 21 (V9 0 26).toNatClampNeg).toNatClampNeg).toNatClampNeg 1) fun V25 =>
              j2 V25
            else
            j2 V9
          else
          ck (ib (V9 0 26) 200) <|
          jn (fun (V20 : Sto) =>
              lp_Mo_reach_161
                (fun V21 =>
                  lp_Mo_reach_206
                    (fun y4 V22 =>
                      ck (ib y4 600) <|
                      ck (ib (V22 18 y4.toNatClampNeg) 400) <|
                      cl (f_Mo_fail V22 2 (V22 13 (V22 18 y4.toNatClampNeg).toNatClampNeg) y4) fun r4 V23 =>
                      ck (bb r4) <| some (r4, V23))
                    (fun V24 =>
                      some (1, V24)) FU 0 V21) FU 1 V20) fun j1 =>
          if (V9 21 (V9 0 26).toNatClampNeg) = (-1) then
            j1 V9
          else
          ck (ib (V9 21 (V9 0 26).toNatClampNeg) 400) <|
          if (V9 10 (V9 21 (V9 0 26).toNatClampNeg).toNatClampNeg) = 0 then
            ck (ib (V9 21 (V9 0 26).toNatClampNeg) 400) <|
            ck (ib (V9 11 (V9 21 (V9 0 26).toNatClampNeg).toNatClampNeg) 96) <| nm (sw V9 25 (V9 11 (V9 21 (V9 0 26).toNatClampNeg).toNatClampNeg).toNatClampNeg 1) fun V19 =>
            j1 V19
          else
          j1 V9) FU 0 V7) FU 0 V
def f_Mo_mayFold (V : Sto) (p1 : Int32) : RT :=
  ck (ib p1 96) <|
  if (V 25 p1.toNatClampNeg) = 0 then
    some (0, V)
  else
  ck (ib p1 96) <|
  if (V 3 p1.toNatClampNeg) = 0 then
    ck (ib p1 96) <|
    if (V 7 p1.toNatClampNeg) = 0 then
      some (1, V)
    else
    some (0, V)
  else
  some (0, V)
def lp_Mo_haveLikeWords_39 (x1 : Int32) (x2 : Int32) (k99 : Int32 → Sto → RT) : Nat → Int32 → Int32 → Sto → RT
  | 0, _, _, _ => none
  | n + 1, x3, x4, V =>
    if x3 = 0 then
      k99 x3 V
    else
    ck (ib x1 96) <|
    if ((V 4 x1.toNatClampNeg) / 4) ≤ x4 then
      k99 x3 V
    else
    ck (ib x1 96) <|
    ck (ib ((V 6 x1.toNatClampNeg) + x4) 100000) <|
    ck (ib x2 96) <|
    ck (ib ((V 6 x2.toNatClampNeg) + x4) 100000) <|
    if (V 8 ((V 6 x1.toNatClampNeg) + x4).toNatClampNeg) = (V 8 ((V 6 x2.toNatClampNeg) + x4).toNatClampNeg) then
      lp_Mo_haveLikeWords_39 x1 x2 k99 n 1 (x4 + 1) V
    else
    lp_Mo_haveLikeWords_39 x1 x2 k99 n 0 (x4 + 1) V
def f_Mo_haveLikeWords (V : Sto) (p1 : Int32) (p2 : Int32) : RT :=
  ck (ib p1 96) <|
  ck (ib p2 96) <|
  jn (fun (z1 : Int32) =>
      lp_Mo_haveLikeWords_39 p1 p2
        (fun y1 V1 =>
          ck (bb y1) <| some (y1, V1)) FU z1 0 V) fun j1 =>
  if (V 4 p1.toNatClampNeg) = (V 4 p2.toNatClampNeg) then
    ck (ib p1 96) <|
    ck (ib p2 96) <|
    if (V 5 p1.toNatClampNeg) = (V 5 p2.toNatClampNeg) then
      j1 1
    else
    j1 0
  else
  j1 0
def lp_Mo_nextOf_4 (x1 : Int32) (k28 : Int32 → Sto → RT) : Nat → Int32 → Sto → RT
  | 0, _, _ => none
  | n + 1, x3, V =>
    if (V 0 20) ≤ x3 then
      k28 x3 V
    else
    ck (ib x3 600) <|
    if (V 15 x3.toNatClampNeg) = x1 then
      k28 x3 V
    else
    lp_Mo_nextOf_4 x1 k28 n (x3 + 1) V
def f_Mo_nextOf (V : Sto) (p1 : Int32) (p2 : Int32) : RT :=
  lp_Mo_nextOf_4 p1
    (fun y1 V1 =>
      some (y1, V1)) FU (p2 + 1) V
def f_Mo_meanLike (V : Sto) (p1 : Int32) (p2 : Int32) : RT :=
  cl (f_Mo_sortOf V p1) fun r1 V1 =>
  cl (f_Mo_sortOf V1 p2) fun r2 V2 =>
  if r1 = r2 then
    if r1 = 3 then
      ck (ib p1 400) <|
      ck (ib p2 400) <|
      if (V2 13 p1.toNatClampNeg) = (V2 13 p2.toNatClampNeg) then
        some (1, V2)
      else
      some (0, V2)
    else
    cl (f_Mo_numberOf V2 p1) fun r3 V3 =>
    cl (f_Mo_numberOf V3 p2) fun r4 V4 =>
    jn (fun (z1 : Int32) =>
        if r1 = 1 then
          if z1 = 0 then
            some (0, V4)
          else
          cl (f_Mo_sectionOf V4 p1) fun r5 V5 =>
          cl (f_Mo_sectionOf V5 p2) fun r6 V6 =>
          if r5 = r6 then
            some (1, V6)
          else
          cl (f_Mo_sectionOf V6 p1) fun r7 V7 =>
          cl (f_Mo_sectionOf V7 p2) fun r8 V8 =>
          ck (ib ((96 * r7) + r8) 9216) <|
          if (V8 28 ((96 * r7) + r8).toNatClampNeg) = 0 then
            some (0, V8)
          else
          some (1, V8)
        else
        ck (bb z1) <| some (z1, V4)) fun j1 =>
    if r3 = r4 then
      j1 1
    else
    j1 0
  else
  some (0, V2)
def lp_Mo_haveLikeRelocations_15 (x1 : Int32) (x2 : Int32) (k100 : Sto → RT) (k121 : Int32 → Int32 → Sto → RT) : Nat → Int32 → Int32 → Sto → RT
  | 0, _, _, _ => none
  | n + 1, x3, x4, V =>
    if (V 0 20) ≤ x3 then
      k121 x3 x4 V
    else
    if (V 0 20) ≤ x4 then
      k121 x3 x4 V
    else
    ck (ib x3 600) <|
    ck (ib x4 600) <|
    if (V 16 x3.toNatClampNeg) = (V 16 x4.toNatClampNeg) then
      ck (ib x3 600) <|
      ck (ib x4 600) <|
      if (V 17 x3.toNatClampNeg) = (V 17 x4.toNatClampNeg) then
        ck (ib x3 600) <|
        ck (ib x4 600) <|
        if (V 19 x3.toNatClampNeg) = (V 19 x4.toNatClampNeg) then
          ck (ib x3 600) <|
          ck (ib x4 600) <|
          cl (f_Mo_meanLike V (V 18 x3.toNatClampNeg) (V 18 x4.toNatClampNeg)) fun r3 V3 =>
          if r3 = 0 then
            k100 V3
          else
          cl (f_Mo_nextOf V3 x1 x3) fun r4 V4 =>
          cl (f_Mo_nextOf V4 x2 x4) fun r5 V5 =>
          lp_Mo_haveLikeRelocations_15 x1 x2 k100 k121 n r4 r5 V5
        else
        k100 V
      else
      k100 V
    else
    k100 V
def f_Mo_haveLikeRelocations (V : Sto) (p1 : Int32) (p2 : Int32) : RT :=
  cl (f_Mo_nextOf V p1 (-1)) fun r1 V1 =>
  cl (f_Mo_nextOf V1 p2 (-1)) fun r2 V2 =>
  lp_Mo_haveLikeRelocations_15 p1 p2
    (fun V6 =>
      some (0, V6))
    (fun y1 y2 V7 =>
      if y1 = (V7 0 20) then
        if y2 = (V7 0 20) then
          some (1, V7)
        else
        some (0, V7)
      else
      some (0, V7)) FU r1 r2 V2
