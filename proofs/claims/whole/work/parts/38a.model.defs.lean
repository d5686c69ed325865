def f_Mo_means (V : Sto) (p1 : Int32) (p2 : Int32) : RT :=
  jn (fun (z1 : Int32) =>
      jn (fun (z2 : Int32) (V3 : Sto) =>
          cl (f_Mo_refuse V3 z1 z2) fun r3 V4 =>
          if r3 = 0 then
            ck (ib p1 400) <|
            ck (ib (V4 9 p1.toNatClampNeg) 24) <|
            jn (fun (z3 : Int32) (V6 : Sto) =>
                if p2 = 0 then
                  some (z3, V6)
                else
                if p2 = 1 then
                  if z3 = 1 then
                    cl (f_Mo_sectionOf V6 p1) fun r10 V12 =>
                    some (r10, V12)
                  else
                  some ((-1), V6)
                else
                if z3 = 2 then
                  cl (f_Mo_meaning V6 p1) fun r5 V7 =>
                  some (r5, V7)
                else
                if z3 = 1 then
                  cl (f_Mo_sectionOf V6 p1) fun r7 V9 =>
                  ck (ib r7 96) <|
                  if (V9 25 r7.toNatClampNeg) = 0 then
                    if z3 = 3 then
                      ck (ib p1 400) <|
                      ck (ib (V9 13 p1.toNatClampNeg) 200) <|
                      if (V9 23 (V9 13 p1.toNatClampNeg).toNatClampNeg) = 0 then
                        some (0, V9)
                      else
                      cl (f_Mo_meaning V9 p1) fun r9 V11 =>
                      some (r9, V11)
                    else
                    some (0, V9)
                  else
                  cl (f_Mo_meaning V9 p1) fun r8 V10 =>
                  some (r8, V10)
                else
                if z3 = 3 then
                  ck (ib p1 400) <|
                  ck (ib (V6 13 p1.toNatClampNeg) 200) <|
                  if (V6 23 (V6 13 p1.toNatClampNeg).toNatClampNeg) = 0 then
                    some (0, V6)
                  else
                  cl (f_Mo_meaning V6 p1) fun r6 V8 =>
                  some (r6, V8)
                else
                some (0, V6)) fun j3 =>
            if (V4 20 (V4 9 p1.toNatClampNeg).toNatClampNeg) = 0 then
              j3 (-1) V4
            else
            cl (f_Mo_sortOf V4 p1) fun r4 V5 =>
            j3 r4 V5
          else
          some (0, V4)) fun j2 =>
      if (V 0 29) = 0 then
        j2 0 V
      else
      cl (f_Mo_within V p1 0 ((V 0 13) - 1)) fun r1 V1 =>
      if r1 = 0 then
        j2 1 V1
      else
      cl (f_Mo_within V1 p2 0 2) fun r2 V2 =>
      if r2 = 0 then
        j2 1 V2
      else
      j2 0 V2) fun j1 =>
  if (V 0 29) = 0 then
    j1 1
  else
  j1 0
def f_Mo_common (V : Sto) (p1 : Int32) : RT :=
  jn (fun (z1 : Int32) =>
      jn (fun (z2 : Int32) (V2 : Sto) =>
          cl (f_Mo_refuse V2 z1 z2) fun r2 V3 =>
          if r2 = 0 then
            ck (ib p1 200) <|
            if (V3 23 p1.toNatClampNeg) = 0 then
              some ((-1), V3)
            else
            ck (ib p1 200) <|
            some (V3 24 p1.toNatClampNeg, V3)
          else
          some (0, V3)) fun j2 =>
      if (V 0 29) = 0 then
        j2 0 V
      else
      cl (f_Mo_within V p1 0 199) fun r1 V1 =>
      if r1 = 0 then
        j2 1 V1
      else
      j2 0 V1) fun j1 =>
  if (V 0 29) = 0 then
    j1 1
  else
  j1 0
def lp_Mo_at_58 (x1 : Int32) (k112 : Int32 → Sto → RT) (k141 : Sto → RT) : Nat → Int32 → Sto → RT
  | 0, _, _ => none
  | n + 1, x2, V =>
    if (V 0 3) ≤ x2 then
      k141 V
    else
    cl (f_Mo_stays V x2) fun r3 V4 =>
    if r3 = 0 then
      lp_Mo_at_58 x1 k112 k141 n (x2 + 1) V4
    else
    ck (ib x2 96) <|
    if (V4 3 x2.toNatClampNeg) = 2 then
      lp_Mo_at_58 x1 k112 k141 n (x2 + 1) V4
    else
    ck (ib x2 96) <|
    ck (ib x2 96) <|
    ck (ib x2 96) <|
    cl (f_Mo_within V4 x1 (V4 27 x2.toNatClampNeg) (((V4 27 x2.toNatClampNeg) + (V4 4 x2.toNatClampNeg)) - 1)) fun r4 V5 =>
    if r4 = 0 then
      lp_Mo_at_58 x1 k112 k141 n (x2 + 1) V5
    else
    k112 x2 V5
def f_Mo_at (V : Sto) (p1 : Int32) : RT :=
  jn (fun (z1 : Int32) =>
      jn (fun (z2 : Int32) (V2 : Sto) =>
          cl (f_Mo_refuse V2 z1 z2) fun r2 V3 =>
          if r2 = 0 then
            lp_Mo_at_58 p1
              (fun y1 V6 =>
                ck (ib y1 96) <|
                ck (ib y1 96) <|
                ck (ib ((V6 6 y1.toNatClampNeg) + ((p1 - (V6 27 y1.toNatClampNeg)) / 4)) 100000) <|
                some (V6 29 ((V6 6 y1.toNatClampNeg) + ((p1 - (V6 27 y1.toNatClampNeg)) / 4)).toNatClampNeg, V6))
              (fun V7 =>
                if (V7 0 47) ≤ 0 then
                  some (0, V7)
                else
                cl (f_Mo_within V7 p1 (V7 0 49) (((V7 0 49) + (8 * (V7 0 47))) - 1)) fun r5 V8 =>
                if r5 = 0 then
                  some (0, V8)
                else
                cl (f_Mo_islandAt V8 ((p1 - (V8 0 49)) / 8)) fun r6 V9 =>
                if p1 = r6 then
                  ck (ib ((p1 - (V8 0 49)) / 8) 32) <|
                  ck (ib (V9 31 ((p1 - (V8 0 49)) / 8).toNatClampNeg) 600) <|
                  cl (f_Mo_meaning V9 (V9 18 (V9 31 ((p1 - (V8 0 49)) / 8).toNatClampNeg).toNatClampNeg)) fun r7 V10 =>
                  ck (ib ((p1 - (V8 0 49)) / 8) 32) <|
                  ck (ib (V10 31 ((p1 - (V8 0 49)) / 8).toNatClampNeg) 600) <|
                  some (r7 + (V10 19 (V10 31 ((p1 - (V8 0 49)) / 8).toNatClampNeg).toNatClampNeg), V10)
                else
                some (0, V9)) FU 0 V3
          else
          some (0, V3)) fun j2 =>
      if (V 0 29) = 0 then
        j2 0 V
      else
      if (p1 - p1 / 4 * 4) = 0 then
        cl (f_Mo_within V p1 (V 0 33) ((V 0 34) - 1)) fun r1 V1 =>
        if r1 = 0 then
          j2 1 V1
        else
        j2 0 V1
      else
      j2 1 V) fun j1 =>
  if (V 0 29) = 0 then
    j1 1
  else
  j1 0
def lp_Mo_about_90 (k121 : Int32 → Sto → RT) : Nat → Int32 → Int32 → Sto → RT
  | 0, _, _, _ => none
  | n + 1, x2, x3, V =>
    if (V 0 1) ≤ x3 then
      k121 x2 V
    else
    ck (ib x3 24) <|
    if (V 20 x3.toNatClampNeg) = 0 then
      lp_Mo_about_90 k121 n x2 (x3 + 1) V
    else
    lp_Mo_about_90 k121 n (x2 + 1) (x3 + 1) V
def lp_Mo_about_125 (k156 : Int32 → Sto → RT) : Nat → Int32 → Int32 → Sto → RT
  | 0, _, _, _ => none
  | n + 1, x2, x3, V =>
    if (V 0 3) ≤ x3 then
      k156 x2 V
    else
    ck (ib x3 96) <|
    if (V 25 x3.toNatClampNeg) = 0 then
      lp_Mo_about_125 k156 n x2 (x3 + 1) V
    else
    lp_Mo_about_125 k156 n (x2 + 1) (x3 + 1) V
def lp_Mo_about_160 (k201 : Int32 → Sto → RT) : Nat → Int32 → Int32 → Sto → RT
  | 0, _, _, _ => none
  | n + 1, x2, x3, V =>
    if (V 0 3) ≤ x3 then
      k201 x2 V
    else
    ck (ib x3 96) <|
    if (V 25 x3.toNatClampNeg) = 0 then
      lp_Mo_about_160 k201 n x2 (x3 + 1) V
    else
    ck (ib x3 96) <|
    if (V 26 x3.toNatClampNeg) = x3 then
      lp_Mo_about_160 k201 n x2 (x3 + 1) V
    else
    lp_Mo_about_160 k201 n (x2 + 1) (x3 + 1) V
def lp_Mo_about_226 (k258 : Int32 → Sto → RT) : Nat → Int32 → Int32 → Sto → RT
  | 0, _, _, _ => none
  | n + 1, x2, x3, V =>
    if (V 0 20) ≤ x3 then
      k258 x2 V
    else
    ck (ib x3 600) <|
    if (V 30 x3.toNatClampNeg) = (-1) then
      lp_Mo_about_226 k258 n x2 (x3 + 1) V
    else
    lp_Mo_about_226 k258 n (x2 + 1) (x3 + 1) V
def f_Mo_about (V : Sto) (p1 : Int32) : RT :=
  jn (fun (z1 : Int32) =>
      jn (fun (z2 : Int32) (V2 : Sto) =>
          cl (f_Mo_refuse V2 z1 z2) fun r2 V3 =>
          if r2 = 0 then
            if p1 = 0 then
              lp_Mo_about_90
                (fun y1 V4 =>
                  some (y1, V4)) FU 0 0 V3
            else
            if p1 = 1 then
              lp_Mo_about_125
                (fun y2 V5 =>
                  some (y2, V5)) FU 0 0 V3
            else
            if p1 = 2 then
              lp_Mo_about_160
                (fun y3 V6 =>
                  some (y3, V6)) FU 0 0 V3
            else
            if p1 = 3 then
              some (V3 0 47, V3)
            else
            if p1 = 4 then
              if (V3 0 47) ≤ 0 then
                some ((-1), V3)
              else
              some (V3 0 49, V3)
            else
            if p1 = 5 then
              lp_Mo_about_226
                (fun y4 V7 =>
                  some (y4, V7)) FU 0 0 V3
            else
            if p1 = 6 then
              some (V3 0 34, V3)
            else
            some (V3 0 35, V3)
          else
          some (0, V3)) fun j2 =>
      if (V 0 29) = 0 then
        j2 0 V
      else
      cl (f_Mo_within V p1 0 7) fun r1 V1 =>
      if r1 = 0 then
        j2 1 V1
      else
      j2 0 V1) fun j1 =>
  if (V 0 29) = 0 then
    j1 1
  else
  j1 0
