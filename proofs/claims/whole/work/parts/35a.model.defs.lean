def lp_Mo_findLike_12 (x1 : Int32) (k79 : Sto → RT) : Nat → Int32 → Sto → RT
  | 0, _, _ => none
  | n + 1, x2, V =>
    if (V 0 3) ≤ x2 then
      k79 V
    else
    if (V 0 27) = 0 then
      ck (ib ((96 * x1) + x2) 9216) <| nm (sw V 28 ((96 * x1) + x2).toNatClampNeg 0) fun V1 =>
      lp_Mo_findLike_12 x1 k79 n (x2 + 1) V1
    else
    if x1 = x2 then
      ck (ib ((96 * x1) + x2) 9216) <| nm (sw V 28 ((96 * x1) + x2).toNatClampNeg 0) fun V2 =>
      lp_Mo_findLike_12 x1 k79 n (x2 + 1) V2
    else
    cl (f_Mo_mayFold V x1) fun r1 V3 =>
    if r1 = 0 then
      ck (ib ((96 * x1) + x2) 9216) <| nm (sw V3 28 ((96 * x1) + x2).toNatClampNeg 0) fun V4 =>
      lp_Mo_findLike_12 x1 k79 n (x2 + 1) V4
    else
    cl (f_Mo_mayFold V3 x2) fun r2 V5 =>
    if r2 = 0 then
      ck (ib ((96 * x1) + x2) 9216) <| nm (sw V5 28 ((96 * x1) + x2).toNatClampNeg 0) fun V6 =>
      lp_Mo_findLike_12 x1 k79 n (x2 + 1) V6
    else
    cl (f_Mo_haveLikeWords V5 x1 x2) fun r3 V7 =>
    if r3 = 0 then
      ck (ib ((96 * x1) + x2) 9216) <| nm (sw V7 28 ((96 * x1) + x2).toNatClampNeg 0) fun V8 =>
      lp_Mo_findLike_12 x1 k79 n (x2 + 1) V8
    else
    ck (ib ((96 * x1) + x2) 9216) <| nm (sw V7 28 ((96 * x1) + x2).toNatClampNeg 1) fun V9 =>
    lp_Mo_findLike_12 x1 k79 n (x2 + 1) V9
def lp_Mo_findLike_2 (k85 : Sto → RT) : Nat → Int32 → Sto → RT
  | 0, _, _ => none
  | n + 1, x1, V =>
    if (V 0 3) ≤ x1 then
      k85 V
    else
    lp_Mo_findLike_12 x1
      (fun V10 =>
        lp_Mo_findLike_2 k85 n (x1 + 1) V10) FU 0 V
def lp_Mo_findLike_98 (k163 : Int32 → Sto → RT) : Nat → Int32 → Int32 → Sto → RT
  | 0, _, _, _ => none
  | n + 1, x1, x2, V =>
    if (96 * (V 0 3)) ≤ x2 then
      k163 x1 V
    else
    if (V 0 3) ≤ (x2 - x2 / 96 * 96) then
      lp_Mo_findLike_98 k163 n x1 (x2 + 1) V
    else
    ck (ib x2 9216) <|
    if (V 28 x2.toNatClampNeg) = 0 then
      lp_Mo_findLike_98 k163 n x1 (x2 + 1) V
    else
    cl (f_Mo_haveLikeRelocations V (x2 / 96) (x2 - x2 / 96 * 96)) fun r4 V12 =>
    if r4 = 0 then
      ck (ib x2 9216) <| nm (sw V12 28 x2.toNatClampNeg 0) fun V13 =>
      lp_Mo_findLike_98 k163 n 1 (x2 + 1) V13
    else
    lp_Mo_findLike_98 k163 n x1 (x2 + 1) V12
def lp_Mo_findLike_90 (k166 : Sto → RT) : Nat → Int32 → Sto → RT
  | 0, _, _ => none
  | n + 1, x1, V =>
    if x1 = 0 then
      k166 V
    else
    lp_Mo_findLike_98
      (fun y1 V14 =>
        lp_Mo_findLike_90 k166 n y1 V14) FU 0 0 V
def lp_Mo_findLike_187 (x2 : Int32) (k227 : Sto → RT) : Nat → Int32 → Sto → RT
  | 0, _, _ => none
  | n + 1, x3, V =>
    if x3 < 0 then
      k227 V
    else
    ck (ib ((96 * x2) + x3) 9216) <|
    if (V 28 ((96 * x2) + x3).toNatClampNeg) = 0 then
      ck (ib x2 96) <|
      ck (ib x2 96) <| nm (sw V 26 x2.toNatClampNeg (V 26 x2.toNatClampNeg)) fun V17 =>
      lp_Mo_findLike_187 x2 k227 n (x3 + (-1)) V17
    else
    ck (ib x2 96) <| nm (sw V 26 x2.toNatClampNeg x3) fun V18 =>
    lp_Mo_findLike_187 x2 k227 n (x3 + (-1)) V18
def lp_Mo_findLike_168 (k233 : Sto → RT) : Nat → Int32 → Sto → RT
  | 0, _, _ => none
  | n + 1, x2, V =>
    if (V 0 3) ≤ x2 then
      k233 V
    else
    ck (ib x2 96) <| nm (sw V 26 x2.toNatClampNeg x2) fun V16 =>
    lp_Mo_findLike_187 x2
      (fun V19 =>
        lp_Mo_findLike_168 k233 n (x2 + 1) V19) FU (x2 - 1) V16
def f_Mo_findLike (V : Sto) : RT :=
  lp_Mo_findLike_2
    (fun V11 =>
      lp_Mo_findLike_90
        (fun V15 =>
          lp_Mo_findLike_168
            (fun V20 =>
              some (0, V20)) FU 0 V15) FU (V11 0 27) V11) FU 0 V
def f_Mo_stays (V : Sto) (p1 : Int32) : RT :=
  ck (ib p1 96) <|
  if (V 25 p1.toNatClampNeg) = 0 then
    some (0, V)
  else
  ck (ib p1 96) <|
  if (V 26 p1.toNatClampNeg) = p1 then
    some (1, V)
  else
  some (0, V)
def f_Mo_up (V : Sto) (p0 : Int32) (p1 : Int32) : RT :=
  ck (!decide (p1 = 0)) <|
  some ((((p0 + p1) - 1) / p1) * p1, V)
def lp_Mo_layKind_5 (x1 : Int32) (k70 : Int32 → Sto → RT) : Nat → Int32 → Int32 → Sto → RT
  | 0, _, _, _ => none
  | n + 1, x3, x4, V =>
    if (V 0 3) ≤ x4 then
      k70 x3 V
    else
    cl (f_Mo_stays V x4) fun r1 V1 =>
    if r1 = 0 then
      lp_Mo_layKind_5 x1 k70 n x3 (x4 + 1) V1
    else
    ck (ib x4 96) <|
    if (V1 3 x4.toNatClampNeg) = x1 then
      ck (ib x4 96) <|
      cl (f_Mo_up V1 x3 (V1 5 x4.toNatClampNeg)) fun r2 V2 =>
      ck (ib x4 96) <| nm (sw V2 27 x4.toNatClampNeg r2) fun V3 =>
      ck (ib x4 96) <|
      lp_Mo_layKind_5 x1 k70 n (r2 + (V3 4 x4.toNatClampNeg)) (x4 + 1) V3
    else
    lp_Mo_layKind_5 x1 k70 n x3 (x4 + 1) V1
def f_Mo_layKind (V : Sto) (p1 : Int32) (p2 : Int32) : RT :=
  lp_Mo_layKind_5 p1
    (fun y1 V4 =>
      some (y1, V4)) FU p2 0 V
def lp_Mo_lay_65 (k112 : Int32 → Sto → RT) : Nat → Int32 → Int32 → Sto → RT
  | 0, _, _, _ => none
  | n + 1, x1, x2, V =>
    if 200 ≤ x2 then
      k112 x1 V
    else
    ck (ib x2 200) <|
    if (V 23 x2.toNatClampNeg) = 0 then
      lp_Mo_lay_65 k112 n x1 (x2 + 1) V
    else
    cl (f_Mo_up V x1 4) fun r5 V8 =>
    ck (ib x2 200) <| nm (sw V8 24 x2.toNatClampNeg r5) fun V9 =>
    ck (ib x2 200) <|
    ck (ib x2 200) <|
    lp_Mo_lay_65 k112 n ((V9 24 x2.toNatClampNeg) + (V9 22 x2.toNatClampNeg)) (x2 + 1) V9
def lp_Mo_lay_119 (k150 : Sto → RT) : Nat → Int32 → Sto → RT
  | 0, _, _ => none
  | n + 1, x2, V =>
    if (V 0 3) ≤ x2 then
      k150 V
    else
    ck (ib x2 96) <|
    ck (ib (V 26 x2.toNatClampNeg) 96) <|
    ck (ib x2 96) <| nm (sw V 27 x2.toNatClampNeg (V 27 (V 26 x2.toNatClampNeg).toNatClampNeg)) fun V12 =>
    lp_Mo_lay_119 k150 n (x2 + 1) V12
def f_Mo_lay (V : Sto) : RT :=
  nm (sw V 0 35 ((V 0 35) + 1)) fun V1 =>
  cl (f_Mo_layKind V1 0 (V1 0 33)) fun r1 V2 =>
  jn (fun (z1 : Int32) (V5 : Sto) =>
      cl (f_Mo_layKind V5 1 z1) fun r3 V6 =>
      cl (f_Mo_layKind V6 2 r3) fun r4 V7 =>
      lp_Mo_lay_65
        (fun y1 V10 =>
          nm (sw V10 0 34 y1) fun V11 =>
          lp_Mo_lay_119
            (fun V13 =>
              some (0, V13)) FU 0 V11) FU r4 0 V7) fun j1 =>
  if (V2 0 47) ≤ 0 then
    j1 r1 V2
  else
  cl (f_Mo_up V2 r1 4) fun r2 V3 =>
  nm (sw V3 0 49 r2) fun V4 =>
  j1 ((V4 0 49) + (8 * (V4 0 47))) V4
def f_Mo_meaning (V : Sto) (p1 : Int32) : RT :=
  cl (f_Mo_sortOf V p1) fun r1 V1 =>
  if r1 = 1 then
    cl (f_Mo_sectionOf V1 p1) fun r3 V3 =>
    ck (ib r3 96) <|
    cl (f_Mo_numberOf V3 p1) fun r4 V4 =>
    some ((V3 27 r3.toNatClampNeg) + r4, V4)
  else
  if r1 = 3 then
    ck (ib p1 400) <|
    ck (ib (V1 13 p1.toNatClampNeg) 200) <|
    some (V1 24 (V1 13 p1.toNatClampNeg).toNatClampNeg, V1)
  else
  cl (f_Mo_numberOf V1 p1) fun r2 V2 =>
  some (r2, V2)
def f_Mo_placeAt (V : Sto) (p1 : Int32) : RT :=
  ck (ib p1 600) <|
  ck (ib (V 15 p1.toNatClampNeg) 96) <|
  ck (ib p1 600) <|
  some ((V 27 (V 15 p1.toNatClampNeg).toNatClampNeg) + (V 16 p1.toNatClampNeg), V)
def f_Mo_isNear (V : Sto) (p0 : Int64) : RT :=
  if (lg_cmp (p0 - p0 / 4 * 4) 0) = 0 then
    if (lg_cmp p0 (-131072)) < 0 then
      some (0, V)
    else
    if 0 < (lg_cmp p0 131068) then
      some (0, V)
    else
    some (1, V)
  else
  some (0, V)
def f_Mo_isNearTarget (V : Sto) (p1 : Int32) : RT :=
  ck (ib p1 600) <|
  cl (f_Mo_meaning V (V 18 p1.toNatClampNeg)) fun r1 V1 =>
  ck (ib p1 600) <|
  cl (f_Mo_placeAt V1 p1) fun r2 V2 =>
  cl (f_Mo_isNear V2 ((((r1 + (V1 19 p1.toNatClampNeg)).toInt64) - r2.toInt64) - 4)) fun r3 V3 =>
  ck (bb r3) <| some (r3, V3)
def f_Mo_islandAt (V : Sto) (p1 : Int32) : RT :=
  some ((V 0 49) + (8 * p1), V)
