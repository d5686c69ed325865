def f_Ly_takeLinkAway (V : Sto) : RT :=
  nm (sw V 0 14 0) fun V1 =>
  nm (sw V1 0 15 0) fun V2 =>
  nm (sw V2 0 16 (-1)) fun V3 =>
  nm (sw V3 0 17 (-1)) fun V4 =>
  some (0, V4)
def f_Ly_fold (V : Sto) (p1 : Int32) (p2 : Int32) : RT :=
  cl (f_Ly_takeLinkAway V) fun r1 V1 =>
  ck (bb p1) <| nm (sw V1 0 12 p1) fun V2 =>
  ck (bb p2) <| nm (sw V2 0 13 p2) fun V3 =>
  some (0, V3)
def f_Se_forget (V : Sto) : RT :=
  nm (sw V 2 0 0) fun V1 =>
  nm (sw V1 2 1 0) fun V2 =>
  nm (sw V2 2 2 0) fun V3 =>
  some (0, V3)
def f_Ly_clear (V : Sto) : RT :=
  cl (f_Ly_takeLinkAway V) fun r1 V1 =>
  nm (sw V1 1 0 0) fun V2 =>
  cl (f_Se_forget V2) fun r2 V3 =>
  nm (sw V3 3 0 0) fun V4 =>
  nm (sw V4 4 0 0) fun V5 =>
  nm (sw V5 0 11 (-1)) fun V6 =>
  nm (sw V6 0 12 0) fun V7 =>
  nm (sw V7 0 13 0) fun V8 =>
  some (0, V8)
def f_Sy_asksForName (V : Sto) (p1 : Int32) : RT :=
  ck (ib p1 400) <|
  if (V 23 p1.toNatClampNeg) = 1 then
    ck (ib p1 400) <|
    if (V 24 p1.toNatClampNeg) = 0 then
      some (1, V)
    else
    some (0, V)
  else
  some (0, V)
def f_Sy_givesName (V : Sto) (p1 : Int32) : RT :=
  ck (ib p1 400) <|
  if (V 23 p1.toNatClampNeg) = 0 then
    some (0, V)
  else
  ck (ib p1 400) <|
  if (V 24 p1.toNatClampNeg) = 0 then
    some (0, V)
  else
  some (1, V)
def f_Ar_note (V : Sto) (p1 : Int32) : RT :=
  cl (f_Sy_asksForName V p1) fun r1 V1 =>
  jn (fun (V3 : Sto) =>
      cl (f_Sy_givesName V3 p1) fun r2 V4 =>
      if r2 = 0 then
        some (0, V4)
      else
      ck (ib p1 400) <|
      ck (ib (V4 22 p1.toNatClampNeg) 200) <| nm (sw V4 36 (V4 22 p1.toNatClampNeg).toNatClampNeg 1) fun V5 =>
      some (0, V5)) fun j1 =>
  if r1 = 0 then
    j1 V1
  else
  ck (ib p1 400) <|
  ck (ib (V1 22 p1.toNatClampNeg) 200) <| nm (sw V1 35 (V1 22 p1.toNatClampNeg).toNatClampNeg 1) fun V2 =>
  j1 V2
def lp_Ar_admit_12 (x1 : Int32) (k47 : Sto → RT) : Nat → Int32 → Sto → RT
  | 0, _, _ => none
  | n + 1, x2, V =>
    if (V 3 0) ≤ x2 then
      k47 V
    else
    ck (ib x2 400) <|
    if (V 21 x2.toNatClampNeg) = x1 then
      cl (f_Ar_note V x2) fun r1 V2 =>
      lp_Ar_admit_12 x1 k47 n (x2 + 1) V2
    else
    lp_Ar_admit_12 x1 k47 n (x2 + 1) V
def f_Ar_admit (V : Sto) (p1 : Int32) : RT :=
  ck (ib p1 24) <| nm (sw V 13 p1.toNatClampNeg 1) fun V1 =>
  lp_Ar_admit_12 p1
    (fun V3 =>
      some (0, V3)) FU 0 V1
def lp_Ar_begin_2 (x1 : Int32) (k38 : Sto → RT) : Nat → Int32 → Sto → RT
  | 0, _, _ => none
  | n + 1, x2, V =>
    if 200 ≤ x2 then
      k38 V
    else
    if x2 = x1 then
      ck (ib x2 200) <| nm (sw V 35 x2.toNatClampNeg 1) fun V3 =>
      ck (ib x2 200) <| nm (sw V3 36 x2.toNatClampNeg 0) fun V4 =>
      lp_Ar_begin_2 x1 k38 n (x2 + 1) V4
    else
    ck (ib x2 200) <| nm (sw V 35 x2.toNatClampNeg 0) fun V1 =>
    ck (ib x2 200) <| nm (sw V1 36 x2.toNatClampNeg 0) fun V2 =>
    lp_Ar_begin_2 x1 k38 n (x2 + 1) V2
def lp_Ar_begin_40 (k67 : Sto → RT) : Nat → Int32 → Sto → RT
  | 0, _, _ => none
  | n + 1, x2, V =>
    if (V 1 0) ≤ x2 then
      k67 V
    else
    ck (ib x2 24) <| nm (sw V 13 x2.toNatClampNeg 0) fun V6 =>
    lp_Ar_begin_40 k67 n (x2 + 1) V6
def lp_Ar_begin_69 (k104 : Sto → RT) : Nat → Int32 → Sto → RT
  | 0, _, _ => none
  | n + 1, x2, V =>
    if (V 1 0) ≤ x2 then
      k104 V
    else
    ck (ib x2 24) <|
    if (V 12 x2.toNatClampNeg) = (-1) then
      cl (f_Ar_admit V x2) fun r1 V8 =>
      lp_Ar_begin_69 k104 n (x2 + 1) V8
    else
    lp_Ar_begin_69 k104 n (x2 + 1) V
def f_Ar_begin (V : Sto) (p1 : Int32) : RT :=
  lp_Ar_begin_2 p1
    (fun V5 =>
      lp_Ar_begin_40
        (fun V7 =>
          lp_Ar_begin_69
            (fun V9 =>
              some (0, V9)) FU 0 V7) FU 0 V5) FU 0 V
def f_Ar_isNeeded (V : Sto) (p1 : Int32) : RT :=
  ck (ib p1 400) <|
  cl (f_Sy_givesName V p1) fun r1 V1 =>
  if r1 = 0 then
    some (0, V1)
  else
  ck (ib p1 400) <|
  if (V1 23 p1.toNatClampNeg) = 2 then
    some (0, V1)
  else
  ck (ib (V 22 p1.toNatClampNeg) 200) <|
  if (V1 35 (V 22 p1.toNatClampNeg).toNatClampNeg) = 0 then
    some (0, V1)
  else
  ck (ib (V 22 p1.toNatClampNeg) 200) <|
  if (V1 36 (V 22 p1.toNatClampNeg).toNatClampNeg) = 0 then
    some (1, V1)
  else
  some (0, V1)
def lp_Ar_firstNeeded_4 (x1 : Int32) (k93 : Int32 → Sto → RT) : Nat → Int32 → Int32 → Sto → RT
  | 0, _, _, _ => none
  | n + 1, x2, x3, V =>
    if (V 3 0) ≤ x3 then
      k93 x2 V
    else
    ck (ib x3 400) <|
    ck (ib (V 21 x3.toNatClampNeg) 24) <|
    jn (fun (z1 : Int32) =>
        if z1 = 0 then
          lp_Ar_firstNeeded_4 x1 k93 n x2 (x3 + 1) V
        else
        cl (f_Ar_isNeeded V x3) fun r1 V1 =>
        if r1 = 0 then
          lp_Ar_firstNeeded_4 x1 k93 n x2 (x3 + 1) V1
        else
        if x2 = (-1) then
          lp_Ar_firstNeeded_4 x1 k93 n (V 21 x3.toNatClampNeg) (x3 + 1) V1
        else
        if x2 ≤ (V 21 x3.toNatClampNeg) then
          lp_Ar_firstNeeded_4 x1 k93 n x2 (x3 + 1) V1
        else
        lp_Ar_firstNeeded_4 x1 k93 n (V 21 x3.toNatClampNeg) (x3 + 1) V1) fun j1 =>
    if (V 12 (V 21 x3.toNatClampNeg).toNatClampNeg) = x1 then
      ck (ib (V 21 x3.toNatClampNeg) 24) <|
      if (V 13 (V 21 x3.toNatClampNeg).toNatClampNeg) = 0 then
        j1 1
      else
      j1 0
    else
    j1 0
def f_Ar_firstNeeded (V : Sto) (p1 : Int32) : RT :=
  lp_Ar_firstNeeded_4 p1
    (fun y1 V2 =>
      some (y1, V2)) FU (-1) 0 V
def lp_Ar_goThroughArchives_11 (x2 : Int32) (k47 : Int32 → Sto → RT) : Nat → Int32 → Int32 → Sto → RT
  | 0, _, _, _ => none
  | n + 1, x1, x3, V =>
    if 24 ≤ x3 then
      k47 x1 V
    else
    cl (f_Ar_firstNeeded V x2) fun r1 V1 =>
    if r1 = (-1) then
      k47 x1 V1
    else
    cl (f_Ar_admit V1 r1) fun r2 V2 =>
    lp_Ar_goThroughArchives_11 x2 k47 n 1 (x3 + 1) V2
def lp_Ar_goThroughArchives_4 (k53 : Int32 → Sto → RT) : Nat → Int32 → Int32 → Sto → RT
  | 0, _, _, _ => none
  | n + 1, x1, x2, V =>
    if 4 ≤ x2 then
      k53 x1 V
    else
    lp_Ar_goThroughArchives_11 x2
      (fun y1 V3 =>
        lp_Ar_goThroughArchives_4 k53 n y1 (x2 + 1) V3) FU x1 0 V
def f_Ar_goThroughArchives (V : Sto) : RT :=
  lp_Ar_goThroughArchives_4
    (fun y2 V4 =>
      ck (bb y2) <| some (y2, V4)) FU 0 0 V
def lp_Ar_bringIn_19 (x3 : Int32) (k41 : Sto → RT) : Nat → Int32 → Sto → RT
  | 0, _, _ => none
  | n + 1, x4, V =>
    if x3 ≤ x4 then
      k41 V
    else
    cl (f_Ar_goThroughArchives V) fun r2 V2 =>
    if r2 = 0 then
      k41 V2
    else
    lp_Ar_bringIn_19 x3 k41 n (x4 + 1) V2
def f_Ar_bringIn (V : Sto) (p1 : Int32) (p2 : Int32) : RT :=
  cl (f_Ar_begin V p1) fun r1 V1 =>
  jn (fun (z1 : Int32) =>
      lp_Ar_bringIn_19 z1
        (fun V3 =>
          some (0, V3)) FU 0 V1) fun j1 =>
  if p2 = 0 then
    j1 1
  else
  j1 25
def f_Na_isCommon (V : Sto) (p1 : Int32) : RT :=
  ck (ib p1 200) <|
  if (V 37 p1.toNatClampNeg) = (-1) then
    ck (ib p1 200) <|
    if (V 39 p1.toNatClampNeg) ≤ 0 then
      some (0, V)
    else
    some (1, V)
  else
  some (0, V)
def f_Na_definer (V : Sto) (p1 : Int32) : RT :=
  ck (ib p1 200) <|
  if (V 37 p1.toNatClampNeg) = (-1) then
    cl (f_Na_isCommon V p1) fun r1 V1 =>
    if r1 = 0 then
      ck (ib p1 200) <|
      some (V1 38 p1.toNatClampNeg, V1)
    else
    some ((-1), V1)
  else
  ck (ib p1 200) <|
  some (V 37 p1.toNatClampNeg, V)
def f_Na_isDefined (V : Sto) (p1 : Int32) : RT :=
  cl (f_Na_isCommon V p1) fun r1 V1 =>
  if r1 = 0 then
    cl (f_Na_definer V1 p1) fun r2 V2 =>
    if r2 = (-1) then
      some (0, V2)
    else
    some (1, V2)
  else
  some (1, V1)
def f_Na_sectionOf (V : Sto) (p1 : Int32) : RT :=
  cl (f_Na_definer V p1) fun r1 V1 =>
  if r1 = (-1) then
    some ((-1), V1)
  else
  ck (ib r1 400) <|
  some (V1 25 r1.toNatClampNeg, V1)
def f_Na_setMeaning (V : Sto) (p1 : Int32) (p2 : Int32) (p3 : Int32) (p4 : Int32) : RT :=
  ck (ib p1 400) <| nm (sw V 40 p1.toNatClampNeg p2) fun V1 =>
  ck (ib p1 400) <| nm (sw V1 41 p1.toNatClampNeg p3) fun V2 =>
  ck (ib p1 400) <| nm (sw V2 42 p1.toNatClampNeg p4) fun V3 =>
  some (0, V3)
def f_Na_copyMeaning (V : Sto) (p1 : Int32) (p2 : Int32) : RT :=
  ck (ib p2 400) <|
  ck (ib p2 400) <|
  ck (ib p2 400) <|
  cl (f_Na_setMeaning V p1 (V 24 p2.toNatClampNeg) (V 25 p2.toNatClampNeg) (V 26 p2.toNatClampNeg)) fun r1 V1 =>
  some (0, V1)
