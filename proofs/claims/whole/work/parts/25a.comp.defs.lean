def lp_Me_firstMisplacedJump_2 (k45 : Int32 → Sto → RT) (k53 : Sto → RT) : Nat → Int32 → Sto → RT
  | 0, _, _ => none
  | n + 1, x1, V =>
    if (V 4 0) ≤ x1 then
      k53 V
    else
    ck (ib x1 600) <|
    cl (f_Me_isMended V (V 32 x1.toNatClampNeg) 5) fun r1 V1 =>
    if r1 = 0 then
      lp_Me_firstMisplacedJump_2 k45 k53 n (x1 + 1) V1
    else
    cl (f_Is_targetOf V1 (V 32 x1.toNatClampNeg)) fun r2 V2 =>
    if (r2 - r2 / 4 * 4) = 0 then
      lp_Me_firstMisplacedJump_2 k45 k53 n (x1 + 1) V2
    else
    k45 (V 32 x1.toNatClampNeg) V2
def f_Me_firstMisplacedJump (V : Sto) : RT :=
  lp_Me_firstMisplacedJump_2
    (fun y1 V3 =>
      some (y1, V3))
    (fun V4 =>
      some ((-1), V4)) FU 0 V
def f_Ly_linksPlaces (V : Sto) (p1 : Int32) : RT :=
  cl (f_Fo_settle V (V 0 12)) fun r1 V1 =>
  cl (f_La_begin V1 p1) fun r2 V2 =>
  cl (f_Is_settle V2) fun r3 V3 =>
  if r3 = 0 then
    cl (f_Ly_fails V3 4 (-1) (-1)) fun r8 V8 =>
    ck (bb r8) <| some (r8, V8)
  else
  cl (f_Me_firstFar V3) fun r4 V4 =>
  if r4 = (-1) then
    cl (f_Me_firstMisplacedJump V4) fun r5 V5 =>
    if r5 = (-1) then
      some (1, V5)
    else
    cl (f_Ly_fails V5 5 (-1) r5) fun r6 V6 =>
    ck (bb r6) <| some (r6, V6)
  else
  cl (f_Ly_fails V4 3 (-1) r4) fun r7 V7 =>
  ck (bb r7) <| some (r7, V7)
def f_Ly_isName (V : Sto) (p0 : Int32) : RT :=
  if p0 < 0 then
    some (0, V)
  else
  if 200 ≤ p0 then
    some (0, V)
  else
  some (1, V)
def f_Ly_isSize (V : Sto) (p0 : Int32) (p1 : Int32) : RT :=
  if p0 < p1 then
    some (0, V)
  else
  if 8192 < p0 then
    some (0, V)
  else
  if (p0 - p0 / 4 * 4) = 0 then
    some (1, V)
  else
  some (0, V)
def f_bitCount (V : Sto) (p0 : Int32) : RT :=
  some ((((((((p0 - (((p0.toUInt32 >>> (Int32.toUInt32 1 &&& Int32.toUInt32 31)).toInt32) &&& 1431655765)) &&& 858993459) + ((((p0 - (((p0.toUInt32 >>> (Int32.toUInt32 1 &&& Int32.toUInt32 31)).toInt32) &&& 1431655765)).toUInt32 >>> (Int32.toUInt32 2 &&& Int32.toUInt32 31)).toInt32) &&& 858993459)) + (((((p0 - (((p0.toUInt32 >>> (Int32.toUInt32 1 &&& Int32.toUInt32 31)).toInt32) &&& 1431655765)) &&& 858993459) + ((((p0 - (((p0.toUInt32 >>> (Int32.toUInt32 1 &&& Int32.toUInt32 31)).toInt32) &&& 1431655765)).toUInt32 >>> (Int32.toUInt32 2 &&& Int32.toUInt32 31)).toInt32) &&& 858993459)).toUInt32 >>> (Int32.toUInt32 4 &&& Int32.toUInt32 31)).toInt32)) &&& 252645135) + (((((((p0 - (((p0.toUInt32 >>> (Int32.toUInt32 1 &&& Int32.toUInt32 31)).toInt32) &&& 1431655765)) &&& 858993459) + ((((p0 - (((p0.toUInt32 >>> (Int32.toUInt32 1 &&& Int32.toUInt32 31)).toInt32) &&& 1431655765)).toUInt32 >>> (Int32.toUInt32 2 &&& Int32.toUInt32 31)).toInt32) &&& 858993459)) + (((((p0 - (((p0.toUInt32 >>> (Int32.toUInt32 1 &&& Int32.toUInt32 31)).toInt32) &&& 1431655765)) &&& 858993459) + ((((p0 - (((p0.toUInt32 >>> (Int32.toUInt32 1 &&& Int32.toUInt32 31)).toInt32) &&& 1431655765)).toUInt32 >>> (Int32.toUInt32 2 &&& Int32.toUInt32 31)).toInt32) &&& 858993459)).toUInt32 >>> (Int32.toUInt32 4 &&& Int32.toUInt32 31)).toInt32)) &&& 252645135).toUInt32 >>> (Int32.toUInt32 8 &&& Int32.toUInt32 31)).toInt32)) + ((((((((p0 - (((p0.toUInt32 >>> (Int32.toUInt32 1 &&& Int32.toUInt32 31)).toInt32) &&& 1431655765)) &&& 858993459) + ((((p0 - (((p0.toUInt32 >>> (Int32.toUInt32 1 &&& Int32.toUInt32 31)).toInt32) &&& 1431655765)).toUInt32 >>> (Int32.toUInt32 2 &&& Int32.toUInt32 31)).toInt32) &&& 858993459)) + (((((p0 - (((p0.toUInt32 >>> (Int32.toUInt32 1 &&& Int32.toUInt32 31)).toInt32) &&& 1431655765)) &&& 858993459) + ((((p0 - (((p0.toUInt32 >>> (Int32.toUInt32 1 &&& Int32.toUInt32 31)).toInt32) &&& 1431655765)).toUInt32 >>> (Int32.toUInt32 2 &&& Int32.toUInt32 31)).toInt32) &&& 858993459)).toUInt32 >>> (Int32.toUInt32 4 &&& Int32.toUInt32 31)).toInt32)) &&& 252645135) + (((((((p0 - (((p0.toUInt32 >>> (Int32.toUInt32 1 &&& Int32.toUInt32 31)).toInt32) &&& 1431655765)) &&& 858993459) + ((((p0 - (((p0.toUInt32 >>> (Int32.toUInt32 1 &&& Int32.toUInt32 31)).toInt32) &&& 1431655765)).toUInt32 >>> (Int32.toUInt32 2 &&& Int32.toUInt32 31)).toInt32) &&& 858993459)) + (((((p0 - (((p0.toUInt32 >>> (Int32.toUInt32 1 &&& Int32.toUInt32 31)).toInt32) &&& 1431655765)) &&& 858993459) + ((((p0 - (((p0.toUInt32 >>> (Int32.toUInt32 1 &&& Int32.toUInt32 31)).toInt32) &&& 1431655765)).toUInt32 >>> (Int32.toUInt32 2 &&& Int32.toUInt32 31)).toInt32) &&& 858993459)).toUInt32 >>> (Int32.toUInt32 4 &&& Int32.toUInt32 31)).toInt32)) &&& 252645135).toUInt32 >>> (Int32.toUInt32 8 &&& Int32.toUInt32 31)).toInt32)).toUInt32 >>> (Int32.toUInt32 16 &&& Int32.toUInt32 31)).toInt32)) &&& 63, V)
def f_Ly_isAlignment (V : Sto) (p0 : Int32) : RT :=
  if p0 < 4 then
    some (0, V)
  else
  if 4096 < p0 then
    some (0, V)
  else
  cl (f_bitCount V p0) fun r1 V1 =>
  if r1 = 1 then
    some (1, V1)
  else
  some (0, V1)
def f_Ly_isOther (V : Sto) (p0 : Int32) (p1 : Int32) (p2 : Int32) : RT :=
  if p0 = 0 then
    if p2 = 1 then
      some (1, V)
    else
    if p2 = 2 then
      some (1, V)
    else
    some (0, V)
  else
  if p0 = 1 then
    if p2 < 0 then
      some (0, V)
    else
    if 2 < p2 then
      some (0, V)
    else
    some (1, V)
  else
  if p0 = 2 then
    if p2 = 3 then
      cl (f_Ly_isSize V p1 4) fun r1 V1 =>
      if r1 = 0 then
        some (0, V1)
      else
      some (1, V1)
    else
    some (0, V)
  else
  some (0, V)
def f_Ly_formOfOther (V : Sto) (p0 : Int32) : RT :=
  if p0 = 1 then
    some (2, V)
  else
  if p0 = 2 then
    some (3, V)
  else
  some (0, V)
def f_Un_has (V : Sto) (p1 : Int32) : RT :=
  if p1 < 0 then
    some (0, V)
  else
  if (V 1 0) ≤ p1 then
    some (0, V)
  else
  some (1, V)
def f_Un_add (V : Sto) (p1 : Int32) : RT :=
  ck (ib (V 1 0) 24) <| nm (sw V 12 (V 1 0).toNatClampNeg p1) fun V1 =>
  ck (ib (V1 1 0) 24) <| nm (sw V1 13 (V1 1 0).toNatClampNeg 0) fun V2 =>
  nm (sw V2 1 0 ((V2 1 0) + 1)) fun V3 =>
  some (V2 1 0, V3)
def lp_Un_countIn_4 (k30 : Int32 → Sto → RT) : Nat → Int32 → Int32 → Sto → RT
  | 0, _, _, _ => none
  | n + 1, x1, x2, V =>
    if (V 1 0) ≤ x2 then
      k30 x1 V
    else
    ck (ib x2 24) <|
    if (V 13 x2.toNatClampNeg) = 0 then
      lp_Un_countIn_4 k30 n x1 (x2 + 1) V
    else
    lp_Un_countIn_4 k30 n (x1 + 1) (x2 + 1) V
def f_Un_countIn (V : Sto) : RT :=
  lp_Un_countIn_4
    (fun y1 V1 =>
      some (y1, V1)) FU 0 0 V
def f_Se_has (V : Sto) (p1 : Int32) : RT :=
  if p1 < 0 then
    some (0, V)
  else
  if (V 2 0) ≤ p1 then
    some (0, V)
  else
  some (1, V)
def f_Se_hasWord (V : Sto) (p1 : Int32) (p2 : Int32) : RT :=
  cl (f_Se_has V p1) fun r1 V1 =>
  if r1 = 0 then
    some (0, V1)
  else
  ck (ib p1 96) <|
  if (V1 16 p1.toNatClampNeg) = 2 then
    some (0, V1)
  else
  if p2 < 0 then
    some (0, V1)
  else
  ck (ib p1 96) <|
  if (V1 17 p1.toNatClampNeg) ≤ p2 then
    some (0, V1)
  else
  if (p2 - p2 / 4 * 4) = 0 then
    some (1, V1)
  else
  some (0, V1)
def f_Se_roomier (V : Sto) (p0 : Int32) : RT :=
  some (if 100000 < (2 * p0) then 100000 else (2 * p0), V)
def f_Se_write (V : Sto) (p1 : Int32) (p2 : Int32) (p3 : Int32) : RT :=
  ck (ib p1 96) <|
  ck (ib ((V 19 p1.toNatClampNeg) + (p2 / 4)) ((V 1000 14).toNatClampNeg)) <| nm (sw V 14 ((V 19 p1.toNatClampNeg) + (p2 / 4)).toNatClampNeg p3) fun V1 =>
  some (0, V1)
def f_Sy_has (V : Sto) (p1 : Int32) : RT :=
  if p1 < 0 then
    some (0, V)
  else
  if (V 3 0) ≤ p1 then
    some (0, V)
  else
  some (1, V)
def lp_Sy_clashes_9 (x1 : Int32) (x2 : Int32) (k50 : Sto → RT) (k58 : Sto → RT) : Nat → Int32 → Sto → RT
  | 0, _, _ => none
  | n + 1, x4, V =>
    if (V 3 0) ≤ x4 then
      k58 V
    else
    ck (ib x4 400) <|
    if (V 21 x4.toNatClampNeg) = x1 then
      ck (ib x4 400) <|
      if (V 22 x4.toNatClampNeg) = x2 then
        ck (ib x4 400) <|
        if (V 23 x4.toNatClampNeg) = 0 then
          lp_Sy_clashes_9 x1 x2 k50 k58 n (x4 + 1) V
        else
        k50 V
      else
      lp_Sy_clashes_9 x1 x2 k50 k58 n (x4 + 1) V
    else
    lp_Sy_clashes_9 x1 x2 k50 k58 n (x4 + 1) V
def f_Sy_clashes (V : Sto) (p1 : Int32) (p2 : Int32) (p3 : Int32) : RT :=
  if p3 = 0 then
    some (0, V)
  else
  lp_Sy_clashes_9 p1 p2
    (fun V1 =>
      some (1, V1))
    (fun V2 =>
      some (0, V2)) FU 0 V
def f_Sy_add (V : Sto) (p1 : Int32) (p2 : Int32) (p3 : Int32) : RT :=
  ck (ib (V 3 0) 400) <| nm (sw V 21 (V 3 0).toNatClampNeg p1) fun V1 =>
  ck (ib (V1 3 0) 400) <| nm (sw V1 22 (V1 3 0).toNatClampNeg p2) fun V2 =>
  ck (ib (V2 3 0) 400) <| nm (sw V2 23 (V2 3 0).toNatClampNeg p3) fun V3 =>
  nm (sw V3 3 0 ((V3 3 0) + 1)) fun V4 =>
  some (V3 3 0, V4)
def f_Sy_define (V : Sto) (p1 : Int32) (p2 : Int32) (p3 : Int32) (p4 : Int32) : RT :=
  ck (ib p1 400) <| nm (sw V 24 p1.toNatClampNeg p2) fun V1 =>
  ck (ib p1 400) <| nm (sw V1 25 p1.toNatClampNeg p3) fun V2 =>
  ck (ib p1 400) <| nm (sw V2 26 p1.toNatClampNeg p4) fun V3 =>
  some (0, V3)
def f_Re_add (V : Sto) (p1 : Int32) (p2 : Int32) (p3 : Int32) (p4 : Int32) (p5 : Int32) : RT :=
  ck (ib (V 4 0) 600) <| nm (sw V 27 (V 4 0).toNatClampNeg p1) fun V1 =>
  ck (ib (V1 4 0) 600) <| nm (sw V1 28 (V1 4 0).toNatClampNeg p2) fun V2 =>
  ck (ib (V2 4 0) 600) <| nm (sw V2 29 (V2 4 0).toNatClampNeg p3) fun V3 =>
  ck (ib (V3 4 0) 600) <| nm (sw V3 30 (V3 4 0).toNatClampNeg p4) fun V4 =>
  ck (ib (V4 4 0) 600) <| nm (sw V4 31 (V4 4 0).toNatClampNeg p5) fun V5 =>
  nm (sw V5 4 0 ((V5 4 0) + 1)) fun V6 =>
  some (V5 4 0, V6)
def lp_Fo_countFolded_4 (k32 : Int32 → Sto → RT) : Nat → Int32 → Int32 → Sto → RT
  | 0, _, _, _ => none
  | n + 1, x1, x2, V =>
    if (V 2 0) ≤ x2 then
      k32 x1 V
    else
    cl (f_Fo_isFolded V x2) fun r1 V1 =>
    if r1 = 0 then
      lp_Fo_countFolded_4 k32 n x1 (x2 + 1) V1
    else
    lp_Fo_countFolded_4 k32 n (x1 + 1) (x2 + 1) V1
def f_Fo_countFolded (V : Sto) : RT :=
  lp_Fo_countFolded_4
    (fun y1 V2 =>
      some (y1, V2)) FU 0 0 V
