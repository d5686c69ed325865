def f_Mo_symbol (V : Sto) (p1 : Int32) (p2 : Int32) (p3 : Int32) (p4 : Int32) : RT :=
  cl (f_Mo_within V p1 0 ((V 0 3) - 1)) fun r1 V1 =>
  jn (fun (z2 : Int32) (V5 : Sto) =>
      jn (fun (z3 : Int32) (V7 : Sto) =>
          jn (fun (z4 : Int32) =>
              jn (fun (z5 : Int32) =>
                  cl (f_Mo_refuse V7 z4 z5) fun r6 V8 =>
                  if r6 = 0 then
                    ck (ib p1 96) <|
                    cl (f_Mo_newSymbol V8 (V8 2 p1.toNatClampNeg) 0 p1 p2 p3 p4) fun r7 V9 =>
                    some (r7, V9)
                  else
                  some (0, V8)) fun j5 =>
              if z3 = 0 then
                j5 0
              else
              if (V7 0 13) = 400 then
                j5 1
              else
              j5 0) fun j4 =>
          if z3 = 0 then
            j4 1
          else
          j4 0) fun j3 =>
      if z2 = 0 then
        j3 0 V5
      else
      ck (ib p1 96) <|
      cl (f_Mo_hasName V5 (V5 2 p1.toNatClampNeg) p3 p4) fun r5 V6 =>
      if r5 = 0 then
        j3 1 V6
      else
      j3 0 V6) fun j1 =>
  if r1 = 0 then
    j1 0 V1
  else
  jn (fun (z1 : Int32) =>
      cl (f_Mo_within V1 p2 0 z1) fun r2 V2 =>
      if r2 = 0 then
        j1 0 V2
      else
      cl (f_Mo_within V2 p3 0 199) fun r3 V3 =>
      if r3 = 0 then
        j1 0 V3
      else
      cl (f_Mo_within V3 p4 0 2) fun r4 V4 =>
      if r4 = 0 then
        j1 0 V4
      else
      j1 1 V4) fun j2 =>
  if p1 < 0 then
    j2 0
  else
  if (V1 0 3) ≤ p1 then
    j2 0
  else
  ck (ib p1 96) <|
  j2 (V1 4 p1.toNatClampNeg)
def f_Mo_other (V : Sto) (p1 : Int32) (p2 : Int32) (p3 : Int32) (p4 : Int32) (p5 : Int32) : RT :=
  cl (f_Mo_within V p1 0 ((V 0 1) - 1)) fun r1 V1 =>
  jn (fun (z1 : Int32) (V4 : Sto) =>
      jn (fun (z2 : Int32) (V8 : Sto) =>
          jn (fun (z3 : Int32) (V10 : Sto) =>
              jn (fun (z4 : Int32) =>
                  jn (fun (z5 : Int32) =>
                      cl (f_Mo_refuse V10 z4 z5) fun r8 V11 =>
                      if r8 = 0 then
                        if p2 = 0 then
                          cl (f_Mo_newSymbol V11 p1 1 (-1) p3 p4 p5) fun r11 V14 =>
                          some (r11, V14)
                        else
                        if p2 = 1 then
                          cl (f_Mo_newSymbol V11 p1 2 (-1) p3 p4 p5) fun r10 V13 =>
                          some (r10, V13)
                        else
                        cl (f_Mo_newSymbol V11 p1 3 (-1) p3 p4 p5) fun r9 V12 =>
                        some (r9, V12)
                      else
                      some (0, V11)) fun j5 =>
                  if z3 = 0 then
                    j5 0
                  else
                  if (V10 0 13) = 400 then
                    j5 1
                  else
                  j5 0) fun j4 =>
              if z3 = 0 then
                j4 1
              else
              j4 0) fun j3 =>
          if z2 = 0 then
            j3 0 V8
          else
          cl (f_Mo_hasName V8 p1 p4 p5) fun r7 V9 =>
          if r7 = 0 then
            j3 1 V9
          else
          j3 0 V9) fun j2 =>
      if z1 = 0 then
        j2 0 V4
      else
      if p2 = 0 then
        cl (f_Mo_within V4 p5 1 2) fun r6 V7 =>
        if r6 = 0 then
          j2 0 V7
        else
        j2 1 V7
      else
      if p2 = 1 then
        cl (f_Mo_within V4 p5 0 2) fun r5 V6 =>
        if r5 = 0 then
          j2 0 V6
        else
        j2 1 V6
      else
      if p5 = 3 then
        cl (f_Mo_within V4 p3 4 8192) fun r4 V5 =>
        if r4 = 0 then
          j2 0 V5
        else
        if (p3 - p3 / 4 * 4) = 0 then
          j2 1 V5
        else
        j2 0 V5
      else
      j2 0 V4) fun j1 =>
  if r1 = 0 then
    j1 0 V1
  else
  cl (f_Mo_within V1 p2 0 2) fun r2 V2 =>
  if r2 = 0 then
    j1 0 V2
  else
  cl (f_Mo_within V2 p4 0 199) fun r3 V3 =>
  if r3 = 0 then
    j1 0 V3
  else
  j1 1 V3
def f_Mo_relocation (V : Sto) (p1 : Int32) (p2 : Int32) (p3 : Int32) (p4 : Int32) (p5 : Int32) : RT :=
  cl (f_Mo_isPlace V p1 p2) fun r1 V1 =>
  jn (fun (z1 : Int32) (V4 : Sto) =>
      jn (fun (z2 : Int32) =>
          jn (fun (z3 : Int32) =>
              jn (fun (z4 : Int32) =>
                  cl (f_Mo_refuse V4 z3 z4) fun r4 V5 =>
                  if r4 = 0 then
                    cl (f_Mo_told V5) fun r5 V6 =>
                    ck (ib (V6 0 20) 600) <| nm (sw V6 15 (V6 0 20).toNatClampNeg p1) fun V7 =>
                    ck (ib (V7 0 20) 600) <| nm (sw V7 16 (V7 0 20).toNatClampNeg p2) fun V8 =>
                    ck (ib (V8 0 20) 600) <| nm (sw V8 17 (V8 0 20).toNatClampNeg p3) fun V9 =>
                    ck (ib (V9 0 20) 600) <| nm (sw V9 18 (V9 0 20).toNatClampNeg p4) fun V10 =>
                    ck (ib (V10 0 20) 600) <| nm (sw V10 19 (V10 0 20).toNatClampNeg p5) fun V11 =>
                    nm (sw V11 0 20 ((V11 0 20) + 1)) fun V12 =>
                    some ((V12 0 20) - 1, V12)
                  else
                  some (0, V5)) fun j4 =>
              if z2 = 0 then
                j4 0
              else
              if (V4 0 20) = 600 then
                j4 1
              else
              j4 0) fun j3 =>
          if z2 = 0 then
            j3 1
          else
          j3 0) fun j2 =>
      if z1 = 0 then
        j2 0
      else
      ck (ib p4 400) <|
      ck (ib p1 96) <|
      if (V4 9 p4.toNatClampNeg) = (V4 2 p1.toNatClampNeg) then
        j2 1
      else
      j2 0) fun j1 =>
  if r1 = 0 then
    j1 0 V1
  else
  cl (f_Mo_within V1 p3 0 5) fun r2 V2 =>
  if r2 = 0 then
    j1 0 V2
  else
  cl (f_Mo_within V2 p4 0 ((V2 0 13) - 1)) fun r3 V3 =>
  if r3 = 0 then
    j1 0 V3
  else
  j1 1 V3
def f_Mo_entry (V : Sto) (p1 : Int32) : RT :=
  cl (f_Mo_within V p1 (-1) 199) fun r1 V1 =>
  if r1 = 0 then
    cl (f_Mo_refuse V1 1 0) fun r4 V5 =>
    if r4 = 0 then
      cl (f_Mo_told V5) fun r5 V6 =>
      nm (sw V6 0 26 p1) fun V7 =>
      some (0, V7)
    else
    some (0, V5)
  else
  cl (f_Mo_refuse V1 0 0) fun r2 V2 =>
  if r2 = 0 then
    cl (f_Mo_told V2) fun r3 V3 =>
    nm (sw V3 0 26 p1) fun V4 =>
    some (0, V4)
  else
  some (0, V2)
def f_Mo_keep (V : Sto) (p1 : Int32) (p2 : Int32) : RT :=
  cl (f_Mo_within V p1 0 ((V 0 3) - 1)) fun r1 V1 =>
  jn (fun (z1 : Int32) =>
      cl (f_Mo_refuse V1 z1 0) fun r2 V2 =>
      if r2 = 0 then
        cl (f_Mo_told V2) fun r3 V3 =>
        ck (ib p1 96) <| nm (sw V3 7 p1.toNatClampNeg (vp_nar .boolean p2)) fun V4 =>
        some (0, V4)
      else
      some (0, V2)) fun j1 =>
  if r1 = 0 then
    j1 1
  else
  j1 0
def f_Mo_fold (V : Sto) (p1 : Int32) (p2 : Int32) : RT :=
  nm (sw V 0 0 0) fun V1 =>
  cl (f_Mo_told V1) fun r1 V2 =>
  ck (bb p1) <| nm (sw V2 0 27 p1) fun V3 =>
  ck (bb p2) <| nm (sw V3 0 28 p2) fun V4 =>
  some (0, V4)
def f_Mo_clear (V : Sto) : RT :=
  nm (sw V 0 0 0) fun V1 =>
  cl (f_Mo_told V1) fun r1 V2 =>
  nm (sw V2 0 1 0) fun V3 =>
  nm (sw V3 0 3 0) fun V4 =>
  nm (sw V4 0 10 0) fun V5 =>
  nm (sw V5 0 11 0) fun V6 =>
  nm (sw V6 0 13 0) fun V7 =>
  nm (sw V7 0 20 0) fun V8 =>
  nm (sw V8 0 26 (-1)) fun V9 =>
  nm (sw V9 0 27 0) fun V10 =>
  nm (sw V10 0 28 0) fun V11 =>
  some (0, V11)
def f_Mo_fail (V : Sto) (p1 : Int32) (p2 : Int32) (p3 : Int32) : RT :=
  nm (sw V 0 30 p1) fun V1 =>
  nm (sw V1 0 31 p2) fun V2 =>
  nm (sw V2 0 32 p3) fun V3 =>
  some (0, V3)
def lp_Mo_isGiven_4 (x1 : Int32) (k71 : Int32 → Sto → RT) : Nat → Int32 → Int32 → Sto → RT
  | 0, _, _, _ => none
  | n + 1, x2, x3, V =>
    if (V 0 13) ≤ x3 then
      k71 x2 V
    else
    if x2 = 0 then
      ck (ib x3 400) <|
      ck (ib (V 9 x3.toNatClampNeg) 24) <|
      if (V 20 (V 9 x3.toNatClampNeg).toNatClampNeg) = 0 then
        lp_Mo_isGiven_4 x1 k71 n 0 (x3 + 1) V
      else
      ck (ib x3 400) <|
      if (V 13 x3.toNatClampNeg) = x1 then
        ck (ib x3 400) <|
        if (V 10 x3.toNatClampNeg) = 1 then
          lp_Mo_isGiven_4 x1 k71 n 0 (x3 + 1) V
        else
        ck (ib x3 400) <|
        if (V 14 x3.toNatClampNeg) = 0 then
          lp_Mo_isGiven_4 x1 k71 n 0 (x3 + 1) V
        else
        lp_Mo_isGiven_4 x1 k71 n 1 (x3 + 1) V
      else
      lp_Mo_isGiven_4 x1 k71 n 0 (x3 + 1) V
    else
    lp_Mo_isGiven_4 x1 k71 n 1 (x3 + 1) V
def f_Mo_isGiven (V : Sto) (p1 : Int32) : RT :=
  lp_Mo_isGiven_4 p1
    (fun y1 V1 =>
      ck (bb y1) <| some (y1, V1)) FU 0 0 V
