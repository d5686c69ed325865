def f_Fo_mayFold (V : Sto) (p1 : Int32) : RT :=
  ck (ib p1 96) <|
  if (V 43 p1.toNatClampNeg) = 0 then
    some (0, V)
  else
  ck (ib p1 96) <|
  if (V 16 p1.toNatClampNeg) = 0 then
    ck (ib p1 96) <|
    if (V 20 p1.toNatClampNeg) = 0 then
      some (1, V)
    else
    some (0, V)
  else
  some (0, V)
def lp_Fo_firstOfSameLook_2 (x1 : Int32) (k34 : Int32 → Sto → RT) (k42 : Sto → RT) : Nat → Int32 → Sto → RT
  | 0, _, _ => none
  | n + 1, x2, V =>
    if x1 ≤ x2 then
      k42 V
    else
    ck (ib x2 96) <|
    if (V 46 x2.toNatClampNeg) = x2 then
      cl (f_Fo_mayFold V x2) fun r1 V1 =>
      if r1 = 0 then
        lp_Fo_firstOfSameLook_2 x1 k34 k42 n (x2 + 1) V1
      else
      cl (f_Fo_looksSame V1 x2 x1) fun r2 V2 =>
      if r2 = 0 then
        lp_Fo_firstOfSameLook_2 x1 k34 k42 n (x2 + 1) V2
      else
      k34 x2 V2
    else
    lp_Fo_firstOfSameLook_2 x1 k34 k42 n (x2 + 1) V
def f_Fo_firstOfSameLook (V : Sto) (p1 : Int32) : RT :=
  lp_Fo_firstOfSameLook_2 p1
    (fun y1 V3 =>
      some (y1, V3))
    (fun V4 =>
      some (p1, V4)) FU 0 V
def f_Fo_leaderOfMeant (V : Sto) (p1 : Int32) : RT :=
  ck (ib p1 400) <|
  ck (ib p1 400) <|
  if (V 40 p1.toNatClampNeg) = 1 then
    ck (ib (V 41 p1.toNatClampNeg) 96) <|
    some (V 46 (V 41 p1.toNatClampNeg).toNatClampNeg, V)
  else
  some (V 41 p1.toNatClampNeg, V)
def lp_Fo_hasSameTargets_2 (x1 : Int32) (x2 : Int32) (k67 : Sto → RT) (k75 : Sto → RT) : Nat → Int32 → Sto → RT
  | 0, _, _ => none
  | n + 1, x3, V =>
    cl (f_Re_countOf V x1) fun r1 V1 =>
    if r1 ≤ x3 then
      k75 V1
    else
    cl (f_Re_pick V1 x1 x3) fun r2 V2 =>
    ck (ib r2 600) <|
    cl (f_Re_pick V2 x2 x3) fun r3 V3 =>
    ck (ib r3 600) <|
    cl (f_Fo_leaderOfMeant V3 (V2 30 r2.toNatClampNeg)) fun r4 V4 =>
    cl (f_Fo_leaderOfMeant V4 (V3 30 r3.toNatClampNeg)) fun r5 V5 =>
    if r4 = r5 then
      lp_Fo_hasSameTargets_2 x1 x2 k67 k75 n (x3 + 1) V5
    else
    k67 V5
def f_Fo_hasSameTargets (V : Sto) (p1 : Int32) (p2 : Int32) : RT :=
  lp_Fo_hasSameTargets_2 p1 p2
    (fun V6 =>
      some (0, V6))
    (fun V7 =>
      some (1, V7)) FU 0 V
def lp_Fo_firstOfSameTargets_7 (x1 : Int32) (k46 : Int32 → Sto → RT) (k54 : Sto → RT) : Nat → Int32 → Sto → RT
  | 0, _, _ => none
  | n + 1, x2, V =>
    if x1 ≤ x2 then
      k54 V
    else
    ck (ib x2 96) <|
    if (V 47 x2.toNatClampNeg) = x2 then
      ck (ib x2 96) <|
      ck (ib x1 96) <|
      if (V 46 x2.toNatClampNeg) = (V 46 x1.toNatClampNeg) then
        cl (f_Fo_hasSameTargets V x2 x1) fun r1 V1 =>
        if r1 = 0 then
          lp_Fo_firstOfSameTargets_7 x1 k46 k54 n (x2 + 1) V1
        else
        k46 x2 V1
      else
      lp_Fo_firstOfSameTargets_7 x1 k46 k54 n (x2 + 1) V
    else
    lp_Fo_firstOfSameTargets_7 x1 k46 k54 n (x2 + 1) V
def f_Fo_firstOfSameTargets (V : Sto) (p1 : Int32) : RT :=
  ck (ib p1 96) <|
  lp_Fo_firstOfSameTargets_7 p1
    (fun y1 V2 =>
      some (y1, V2))
    (fun V3 =>
      some (p1, V3)) FU (V 46 p1.toNatClampNeg) V
def lp_Fo_split_4 (k57 : Int32 → Sto → RT) : Nat → Int32 → Int32 → Sto → RT
  | 0, _, _, _ => none
  | n + 1, x1, x2, V =>
    if (V 2 0) ≤ x2 then
      k57 x1 V
    else
    cl (f_Fo_firstOfSameTargets V x2) fun r1 V1 =>
    ck (ib x2 96) <| nm (sw V1 47 x2.toNatClampNeg r1) fun V2 =>
    if x1 = 0 then
      ck (ib x2 96) <|
      ck (ib x2 96) <|
      if (V2 47 x2.toNatClampNeg) = (V2 46 x2.toNatClampNeg) then
        lp_Fo_split_4 k57 n 0 (x2 + 1) V2
      else
      lp_Fo_split_4 k57 n 1 (x2 + 1) V2
    else
    lp_Fo_split_4 k57 n 1 (x2 + 1) V2
def f_Fo_split (V : Sto) : RT :=
  lp_Fo_split_4
    (fun y1 V3 =>
      ck (cpb 0 0 (V3 2 0) 96 96) <| nm (cpw V3 47 46 0 0 (V3 2 0)) fun V4 =>
      ck (bb y1) <| some (y1, V4)) FU 0 0 V
def lp_Fo_settle_2 (x1 : Int32) (k46 : Sto → RT) : Nat → Int32 → Sto → RT
  | 0, _, _ => none
  | n + 1, x2, V =>
    if (V 2 0) ≤ x2 then
      k46 V
    else
    if x1 = 0 then
      ck (ib x2 96) <| nm (sw V 46 x2.toNatClampNeg x2) fun V1 =>
      lp_Fo_settle_2 x1 k46 n (x2 + 1) V1
    else
    cl (f_Fo_mayFold V x2) fun r1 V2 =>
    if r1 = 0 then
      ck (ib x2 96) <| nm (sw V2 46 x2.toNatClampNeg x2) fun V3 =>
      lp_Fo_settle_2 x1 k46 n (x2 + 1) V3
    else
    cl (f_Fo_firstOfSameLook V2 x2) fun r2 V4 =>
    ck (ib x2 96) <| nm (sw V4 46 x2.toNatClampNeg r2) fun V5 =>
    lp_Fo_settle_2 x1 k46 n (x2 + 1) V5
def lp_Fo_settle_48 (k70 : Sto → RT) : Nat → Int32 → Sto → RT
  | 0, _, _ => none
  | n + 1, x2, V =>
    if 96 ≤ x2 then
      k70 V
    else
    cl (f_Fo_split V) fun r3 V7 =>
    if r3 = 0 then
      k70 V7
    else
    lp_Fo_settle_48 k70 n (x2 + 1) V7
def f_Fo_settle (V : Sto) (p1 : Int32) : RT :=
  lp_Fo_settle_2 p1
    (fun V6 =>
      lp_Fo_settle_48
        (fun V8 =>
          some (0, V8)) FU 0 V6) FU 0 V
def f_Is_placeOf (V : Sto) (p1 : Int32) : RT :=
  ck (ib p1 600) <|
  ck (ib (V 27 p1.toNatClampNeg) 96) <|
  ck (ib p1 600) <|
  some ((V 48 (V 27 p1.toNatClampNeg).toNatClampNeg) + (V 28 p1.toNatClampNeg), V)
def f_Is_isNear (V : Sto) (p1 : Int32) (p2 : Int32) : RT :=
  cl (f_Is_placeOf V p1) fun r1 V1 =>
  if (lg_cmp (((p2.toInt64 - r1.toInt64) - 4) - ((p2.toInt64 - r1.toInt64) - 4) / 4 * 4) 0) = 0 then
    if (lg_cmp ((p2.toInt64 - r1.toInt64) - 4) (-131072)) < 0 then
      some (0, V1)
    else
    if 0 < (lg_cmp ((p2.toInt64 - r1.toInt64) - 4) 131068) then
      some (0, V1)
    else
    some (1, V1)
  else
  some (0, V1)
def f_Fo_isFolded (V : Sto) (p1 : Int32) : RT :=
  ck (ib p1 96) <|
  if (V 46 p1.toNatClampNeg) = p1 then
    some (0, V)
  else
  some (1, V)
def f_La_isStanding (V : Sto) (p1 : Int32) : RT :=
  ck (ib p1 96) <|
  if (V 43 p1.toNatClampNeg) = 0 then
    some (0, V)
  else
  cl (f_Fo_isFolded V p1) fun r1 V1 =>
  if r1 = 0 then
    some (1, V1)
  else
  some (0, V1)
def f_Is_mayGo (V : Sto) (p1 : Int32) : RT :=
  ck (ib p1 600) <|
  ck (ib p1 600) <|
  if (V 29 p1.toNatClampNeg) = 4 then
    ck (ib (V 27 p1.toNatClampNeg) 96) <|
    if (V 16 (V 27 p1.toNatClampNeg).toNatClampNeg) = 0 then
      cl (f_La_isStanding V (V 27 p1.toNatClampNeg)) fun r1 V1 =>
      if r1 = 0 then
        some (0, V1)
      else
      some (1, V1)
    else
    some (0, V)
  else
  some (0, V)
def f_La_startOf (V : Sto) (p1 : Int32) (p2 : Int32) : RT :=
  if p1 = 1 then
    ck (ib p2 96) <|
    some (V 48 p2.toNatClampNeg, V)
  else
  if p1 = 3 then
    ck (ib p2 200) <|
    some (V 49 p2.toNatClampNeg, V)
  else
  some (0, V)
def f_La_addressOf (V : Sto) (p1 : Int32) : RT :=
  ck (ib p1 400) <|
  ck (ib p1 400) <|
  cl (f_La_startOf V (V 40 p1.toNatClampNeg) (V 41 p1.toNatClampNeg)) fun r1 V1 =>
  ck (ib p1 400) <|
  some (r1 + (V1 42 p1.toNatClampNeg), V1)
def f_Is_targetOf (V : Sto) (p1 : Int32) : RT :=
  ck (ib p1 600) <|
  cl (f_La_addressOf V (V 30 p1.toNatClampNeg)) fun r1 V1 =>
  ck (ib p1 600) <|
  some (r1 + (V1 31 p1.toNatClampNeg), V1)
def lp_Is_firstStranded_2 (k54 : Int32 → Sto → RT) (k62 : Sto → RT) : Nat → Int32 → Sto → RT
  | 0, _, _ => none
  | n + 1, x1, V =>
    if (V 4 0) ≤ x1 then
      k62 V
    else
    ck (ib x1 600) <|
    ck (ib (V 32 x1.toNatClampNeg) 600) <|
    if (V 53 (V 32 x1.toNatClampNeg).toNatClampNeg) = (-1) then
      cl (f_Is_mayGo V (V 32 x1.toNatClampNeg)) fun r1 V1 =>
      if r1 = 0 then
        lp_Is_firstStranded_2 k54 k62 n (x1 + 1) V1
      else
      cl (f_Is_targetOf V1 (V 32 x1.toNatClampNeg)) fun r2 V2 =>
      cl (f_Is_isNear V2 (V 32 x1.toNatClampNeg) r2) fun r3 V3 =>
      if r3 = 0 then
        k54 (V 32 x1.toNatClampNeg) V3
      else
      lp_Is_firstStranded_2 k54 k62 n (x1 + 1) V3
    else
    lp_Is_firstStranded_2 k54 k62 n (x1 + 1) V
def f_Is_firstStranded (V : Sto) : RT :=
  lp_Is_firstStranded_2
    (fun y1 V4 =>
      some (y1, V4))
    (fun V5 =>
      some ((-1), V5)) FU 0 V
