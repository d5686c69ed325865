def f_La_isLaid (V : Sto) (p1 : Int32) : RT :=
  ck (ib p1 400) <|
  if (V 40 p1.toNatClampNeg) = 1 then
    ck (ib p1 400) <|
    ck (ib (V 41 p1.toNatClampNeg) 96) <|
    ck (bb (V 43 (V 41 p1.toNatClampNeg).toNatClampNeg)) <| some (V 43 (V 41 p1.toNatClampNeg).toNatClampNeg, V)
  else
  if (V 40 p1.toNatClampNeg) = 3 then
    ck (ib p1 400) <|
    ck (ib (V 41 p1.toNatClampNeg) 200) <|
    ck (bb (V 44 (V 41 p1.toNatClampNeg).toNatClampNeg)) <| some (V 44 (V 41 p1.toNatClampNeg).toNatClampNeg, V)
  else
  ck (ib p1 400) <|
  if (V 40 p1.toNatClampNeg) = 2 then
    some (1, V)
  else
  some (0, V)
def lp_La_sectionAt_2 (x1 : Int32) (k51 : Int32 → Sto → RT) (k59 : Sto → RT) : Nat → Int32 → Sto → RT
  | 0, _, _ => none
  | n + 1, x2, V =>
    if (V 2 0) ≤ x2 then
      k59 V
    else
    cl (f_La_isStanding V x2) fun r1 V1 =>
    if r1 = 0 then
      lp_La_sectionAt_2 x1 k51 k59 n (x2 + 1) V1
    else
    ck (ib x2 96) <|
    if x1 < (V1 48 x2.toNatClampNeg) then
      lp_La_sectionAt_2 x1 k51 k59 n (x2 + 1) V1
    else
    ck (ib x2 96) <|
    ck (ib x2 96) <|
    if ((V1 48 x2.toNatClampNeg) + (V1 17 x2.toNatClampNeg)) ≤ x1 then
      lp_La_sectionAt_2 x1 k51 k59 n (x2 + 1) V1
    else
    k51 x2 V1
def f_La_sectionAt (V : Sto) (p1 : Int32) : RT :=
  lp_La_sectionAt_2 p1
    (fun y1 V2 =>
      some (y1, V2))
    (fun V3 =>
      some ((-1), V3)) FU 0 V
def f_Is_covers (V : Sto) (p1 : Int32) : RT :=
  if p1 < (V 9 7) then
    some (0, V)
  else
  if ((V 9 7) + ((V 10 5) * 8)) ≤ p1 then
    some (0, V)
  else
  some (1, V)
def f_Is_read (V : Sto) (p1 : Int32) : RT :=
  if ((p1 - (V 9 7)) - (p1 - (V 9 7)) / 8 * 8) = 0 then
    ck (ib ((p1 - (V 9 7)) / 8) 32) <|
    ck (ib ((p1 - (V 9 7)) / 8) 32) <|
    cl (f_La_startOf V (V 50 ((p1 - (V 9 7)) / 8).toNatClampNeg) (V 51 ((p1 - (V 9 7)) / 8).toNatClampNeg)) fun r1 V1 =>
    ck (ib ((p1 - (V 9 7)) / 8) 32) <|
    some (r1 + (V1 52 ((p1 - (V 9 7)) / 8).toNatClampNeg), V1)
  else
  some (0, V)
def f_Me_withLowerHalf (V : Sto) (p0 : Int32) (p1 : Int32) : RT :=
  some ((p0 &&& (-65536)) ||| (p1 &&& 65535), V)
def f_Me_wordsBetween (V : Sto) (p0 : Int32) (p1 : Int32) : RT :=
  some ((p1 - p0) / 4, V)
def f_Me_mend (V : Sto) (p1 : Int32) (p2 : Int32) : RT :=
  cl (f_Is_targetOf V p2) fun r1 V1 =>
  cl (f_Is_placeOf V1 p2) fun r2 V2 =>
  ck (ib p2 600) <|
  if (V2 29 p2.toNatClampNeg) = 0 then
    some (p1 + r1, V2)
  else
  if (V2 29 p2.toNatClampNeg) = 1 then
    some ((p1 + r1) - r2, V2)
  else
  if (V2 29 p2.toNatClampNeg) = 2 then
    cl (f_Me_withLowerHalf V2 p1 (((r1 + 32768).toUInt32 >>> (Int32.toUInt32 16 &&& Int32.toUInt32 31)).toInt32)) fun r3 V3 =>
    some (r3, V3)
  else
  if (V2 29 p2.toNatClampNeg) = 3 then
    cl (f_Me_withLowerHalf V2 p1 r1) fun r4 V4 =>
    some (r4, V4)
  else
  if (V2 29 p2.toNatClampNeg) = 4 then
    cl (f_Is_goalOf V2 p2 r1) fun r5 V5 =>
    cl (f_Me_wordsBetween V5 (r2 + 4) r5) fun r6 V6 =>
    cl (f_Me_withLowerHalf V6 p1 r6) fun r7 V7 =>
    some (r7, V7)
  else
  some ((p1 &&& (-67108864)) ||| (((r1.toUInt32 >>> (Int32.toUInt32 2 &&& Int32.toUInt32 31)).toInt32) &&& 67108863), V2)
def lp_Me_mended_13 (x1 : Int32) (x2 : Int32) (k66 : Int32 → Sto → RT) : Nat → Int32 → Int32 → Sto → RT
  | 0, _, _, _ => none
  | n + 1, x3, x4, V =>
    cl (f_Re_countOf V x1) fun r2 V2 =>
    if r2 ≤ x4 then
      k66 x3 V2
    else
    cl (f_Re_pick V2 x1 x4) fun r3 V3 =>
    ck (ib r3 600) <|
    if (V3 28 r3.toNatClampNeg) = x2 then
      cl (f_Me_mend V3 x3 r3) fun r4 V4 =>
      lp_Me_mended_13 x1 x2 k66 n r4 (x4 + 1) V4
    else
    lp_Me_mended_13 x1 x2 k66 n x3 (x4 + 1) V3
def f_Me_mended (V : Sto) (p1 : Int32) (p2 : Int32) : RT :=
  cl (f_Se_read V p1 p2) fun r1 V1 =>
  lp_Me_mended_13 p1 p2
    (fun y1 V5 =>
      some (y1, V5)) FU r1 0 V1
def f_Me_read (V : Sto) (p1 : Int32) : RT :=
  cl (f_La_sectionAt V p1) fun r1 V1 =>
  if r1 = (-1) then
    cl (f_Is_covers V1 p1) fun r3 V3 =>
    if r3 = 0 then
      some (0, V3)
    else
    cl (f_Is_read V3 p1) fun r4 V4 =>
    some (r4, V4)
  else
  ck (ib r1 96) <|
  if (V1 16 r1.toNatClampNeg) = 2 then
    some (0, V1)
  else
  ck (ib r1 96) <|
  cl (f_Me_mended V1 r1 (p1 - (V1 48 r1.toNatClampNeg))) fun r2 V2 =>
  some (r2, V2)
