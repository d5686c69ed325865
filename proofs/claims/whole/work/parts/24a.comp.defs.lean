def lp_Is_find_12 (x1 : Int32) (x2 : Int32) (k83 : Int32 → Sto → RT) (k91 : Sto → RT) : Nat → Int32 → Sto → RT
  | 0, _, _ => none
  | n + 1, x3, V =>
    if (V 10 5) ≤ x3 then
      k91 V
    else
    ck (ib x3 32) <|
    ck (ib x2 400) <|
    if (V 50 x3.toNatClampNeg) = (V 40 x2.toNatClampNeg) then
      ck (ib x3 32) <|
      cl (f_Fo_leaderOfMeant V x2) fun r1 V1 =>
      if (V 51 x3.toNatClampNeg) = r1 then
        ck (ib x3 32) <|
        ck (ib x2 400) <|
        ck (ib x1 600) <|
        if (V1 52 x3.toNatClampNeg) = ((V1 42 x2.toNatClampNeg) + (V1 31 x1.toNatClampNeg)) then
          k83 x3 V1
        else
        lp_Is_find_12 x1 x2 k83 k91 n (x3 + 1) V1
      else
      lp_Is_find_12 x1 x2 k83 k91 n (x3 + 1) V1
    else
    lp_Is_find_12 x1 x2 k83 k91 n (x3 + 1) V
def f_Is_find (V : Sto) (p1 : Int32) : RT :=
  ck (ib p1 600) <|
  lp_Is_find_12 p1 (V 30 p1.toNatClampNeg)
    (fun y1 V2 =>
      some (y1, V2))
    (fun V3 =>
      some (V3 10 5, V3)) FU 0 V
def f_Is_raise (V : Sto) (p1 : Int32) : RT :=
  ck (ib p1 600) <|
  ck (ib (V 30 p1.toNatClampNeg) 400) <|
  ck (ib (V 10 5) 32) <| nm (sw V 50 (V 10 5).toNatClampNeg (V 40 (V 30 p1.toNatClampNeg).toNatClampNeg)) fun V1 =>
  cl (f_Fo_leaderOfMeant V1 (V 30 p1.toNatClampNeg)) fun r1 V2 =>
  ck (ib (V1 10 5) 32) <| nm (sw V2 51 (V1 10 5).toNatClampNeg r1) fun V3 =>
  ck (ib (V 30 p1.toNatClampNeg) 400) <|
  ck (ib p1 600) <|
  ck (ib (V3 10 5) 32) <| nm (sw V3 52 (V3 10 5).toNatClampNeg ((V3 42 (V 30 p1.toNatClampNeg).toNatClampNeg) + (V3 31 p1.toNatClampNeg))) fun V4 =>
  nm (sw V4 10 5 ((V4 10 5) + 1)) fun V5 =>
  some (0, V5)
def f_Is_send (V : Sto) (p1 : Int32) : RT :=
  cl (f_Is_find V p1) fun r1 V1 =>
  if r1 = (V1 10 5) then
    if (V1 10 5) < 32 then
      cl (f_Is_raise V1 p1) fun r2 V4 =>
      ck (ib p1 600) <| nm (sw V4 53 p1.toNatClampNeg r1) fun V5 =>
      nm (sw V5 10 6 ((V5 10 6) + 1)) fun V6 =>
      some (1, V6)
    else
    some (0, V1)
  else
  ck (ib p1 600) <| nm (sw V1 53 p1.toNatClampNeg r1) fun V2 =>
  nm (sw V2 10 6 ((V2 10 6) + 1)) fun V3 =>
  some (1, V3)
def f_La_put (V : Sto) (p1 : Int32) (p2 : Int32) : RT :=
  nm (sw V 9 5 (((((V 9 5) + p2) - 1) &&& (-p2)) + p1)) fun V1 =>
  some ((((V 9 5) + p2) - 1) &&& (-p2), V1)
def lp_La_laySections_2 (x1 : Int32) (k100 : Sto → RT) : Nat → Int32 → Sto → RT
  | 0, _, _ => none
  | n + 1, x2, V =>
    if (V 2 0) ≤ x2 then
      k100 V
    else
    ck (ib x2 96) <|
    if (V 43 x2.toNatClampNeg) = 0 then
      lp_La_laySections_2 x1 k100 n (x2 + 1) V
    else
    ck (ib x2 96) <|
    if (V 16 x2.toNatClampNeg) = x1 then
      cl (f_Fo_isFolded V x2) fun r1 V1 =>
      if r1 = 0 then
        ck (ib x2 96) <|
        ck (ib x2 96) <|
        cl (f_La_put V1 (V1 17 x2.toNatClampNeg) (V1 18 x2.toNatClampNeg)) fun r2 V2 =>
        ck (ib x2 96) <| nm (sw V2 48 x2.toNatClampNeg r2) fun V3 =>
        lp_La_laySections_2 x1 k100 n (x2 + 1) V3
      else
      ck (ib x2 96) <|
      ck (ib (V1 46 x2.toNatClampNeg) 96) <|
      ck (ib x2 96) <| nm (sw V1 48 x2.toNatClampNeg (V1 48 (V1 46 x2.toNatClampNeg).toNatClampNeg)) fun V4 =>
      lp_La_laySections_2 x1 k100 n (x2 + 1) V4
    else
    lp_La_laySections_2 x1 k100 n (x2 + 1) V
def f_La_laySections (V : Sto) (p1 : Int32) : RT :=
  lp_La_laySections_2 p1
    (fun V5 =>
      some (0, V5)) FU 0 V
def lp_La_lay_48 (k93 : Sto → RT) : Nat → Int32 → Sto → RT
  | 0, _, _ => none
  | n + 1, x2, V =>
    if 200 ≤ x2 then
      k93 V
    else
    ck (ib x2 200) <|
    if (V 44 x2.toNatClampNeg) = 0 then
      lp_La_lay_48 k93 n (x2 + 1) V
    else
    ck (ib x2 200) <|
    cl (f_La_put V (V 39 x2.toNatClampNeg) 4) fun r5 V8 =>
    ck (ib x2 200) <| nm (sw V8 49 x2.toNatClampNeg r5) fun V9 =>
    lp_La_lay_48 k93 n (x2 + 1) V9
def f_La_lay (V : Sto) (p1 : Int32) : RT :=
  nm (sw V 9 6 ((V 9 6) + 1)) fun V1 =>
  nm (sw V1 9 5 (V1 9 4)) fun V2 =>
  cl (f_La_laySections V2 0) fun r1 V3 =>
  cl (f_La_put V3 (p1 * 8) 4) fun r2 V4 =>
  nm (sw V4 9 7 r2) fun V5 =>
  cl (f_La_laySections V5 1) fun r3 V6 =>
  cl (f_La_laySections V6 2) fun r4 V7 =>
  lp_La_lay_48
    (fun V10 =>
      some (0, V10)) FU 0 V7
def lp_fill53_5 (x1 : Int32) (x3 : Int32) (k20 : Sto → RT) : Nat → Int32 → Sto → RT
  | 0, _, _ => none
  | n + 1, x2, V =>
    if x3 ≤ x2 then
      k20 V
    else
    ck (ib x2 600) <| nm (sw V 53 x2.toNatClampNeg x1) fun V1 =>
    lp_fill53_5 x1 x3 k20 n (x2 + 1) V1
def f_fill53 (V : Sto) (p1 : Int32) : RT :=
  lp_fill53_5 p1 (nI 600)
    (fun V2 =>
      some (0, V2)) FU 0 V
def lp_Is_settle_31 (k59 : Sto → RT) (k78 : Sto → RT) : Nat → Int32 → Sto → RT
  | 0, _, _ => none
  | n + 1, x1, V =>
    if 600 < x1 then
      k78 V
    else
    cl (f_Is_firstStranded V) fun r3 V5 =>
    if r3 = (-1) then
      k78 V5
    else
    cl (f_Is_send V5 r3) fun r4 V6 =>
    if r4 = 0 then
      k59 V6
    else
    cl (f_La_lay V6 (V6 10 5)) fun r5 V7 =>
    lp_Is_settle_31 k59 k78 n (x1 + 1) V7
def f_Is_settle (V : Sto) : RT :=
  nm (sw V 10 5 0) fun V1 =>
  nm (sw V1 10 6 0) fun V2 =>
  cl (f_fill53 V2 (-1)) fun r1 V3 =>
  cl (f_La_lay V3 (V3 10 5)) fun r2 V4 =>
  lp_Is_settle_31
    (fun V8 =>
      some (0, V8))
    (fun V9 =>
      some (1, V9)) FU 0 V4
def lp_fill48_5 (x1 : Int32) (x3 : Int32) (k20 : Sto → RT) : Nat → Int32 → Sto → RT
  | 0, _, _ => none
  | n + 1, x2, V =>
    if x3 ≤ x2 then
      k20 V
    else
    ck (ib x2 96) <| nm (sw V 48 x2.toNatClampNeg x1) fun V1 =>
    lp_fill48_5 x1 x3 k20 n (x2 + 1) V1
def f_fill48 (V : Sto) (p1 : Int32) : RT :=
  lp_fill48_5 p1 (nI 96)
    (fun V2 =>
      some (0, V2)) FU 0 V
def lp_fill49_5 (x1 : Int32) (x3 : Int32) (k20 : Sto → RT) : Nat → Int32 → Sto → RT
  | 0, _, _ => none
  | n + 1, x2, V =>
    if x3 ≤ x2 then
      k20 V
    else
    ck (ib x2 200) <| nm (sw V 49 x2.toNatClampNeg x1) fun V1 =>
    lp_fill49_5 x1 x3 k20 n (x2 + 1) V1
def f_fill49 (V : Sto) (p1 : Int32) : RT :=
  lp_fill49_5 p1 (nI 200)
    (fun V2 =>
      some (0, V2)) FU 0 V
def f_La_begin (V : Sto) (p1 : Int32) : RT :=
  nm (sw V 9 4 p1) fun V1 =>
  nm (sw V1 9 6 0) fun V2 =>
  cl (f_fill48 V2 (-1)) fun r1 V3 =>
  cl (f_fill49 V3 (-1)) fun r2 V4 =>
  some (0, V4)
def f_Is_goalOf (V : Sto) (p1 : Int32) (p2 : Int32) : RT :=
  ck (ib p1 600) <|
  if (V 53 p1.toNatClampNeg) = (-1) then
    some (p2, V)
  else
  some ((V 9 7) + ((V 53 p1.toNatClampNeg) * 8), V)
def f_Me_isMended (V : Sto) (p1 : Int32) (p2 : Int32) : RT :=
  ck (ib p1 600) <|
  if (V 29 p1.toNatClampNeg) = p2 then
    ck (ib p1 600) <|
    cl (f_La_isStanding V (V 27 p1.toNatClampNeg)) fun r1 V1 =>
    if r1 = 0 then
      some (0, V1)
    else
    some (1, V1)
  else
  some (0, V)
def lp_Me_firstFar_2 (k59 : Int32 → Sto → RT) (k67 : Sto → RT) : Nat → Int32 → Sto → RT
  | 0, _, _ => none
  | n + 1, x1, V =>
    if (V 4 0) ≤ x1 then
      k67 V
    else
    ck (ib x1 600) <|
    cl (f_Me_isMended V (V 32 x1.toNatClampNeg) 4) fun r1 V1 =>
    if r1 = 0 then
      lp_Me_firstFar_2 k59 k67 n (x1 + 1) V1
    else
    cl (f_Is_targetOf V1 (V 32 x1.toNatClampNeg)) fun r2 V2 =>
    cl (f_Is_goalOf V2 (V 32 x1.toNatClampNeg) r2) fun r3 V3 =>
    cl (f_Is_isNear V3 (V 32 x1.toNatClampNeg) r3) fun r4 V4 =>
    if r4 = 0 then
      k59 (V 32 x1.toNatClampNeg) V4
    else
    lp_Me_firstFar_2 k59 k67 n (x1 + 1) V4
def f_Me_firstFar (V : Sto) : RT :=
  lp_Me_firstFar_2
    (fun y1 V5 =>
      some (y1, V5))
    (fun V6 =>
      some ((-1), V6)) FU 0 V
