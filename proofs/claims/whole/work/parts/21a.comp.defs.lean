def f_Na_giveMeaning (V : Sto) (p1 : Int32) : RT :=
  ck (ib p1 400) <|
  ck (ib p1 400) <|
  ck (ib (V 21 p1.toNatClampNeg) 24) <|
  if (V 13 (V 21 p1.toNatClampNeg).toNatClampNeg) = 0 then
    cl (f_Na_setMeaning V p1 (-1) (-1) 0) fun r9 V9 =>
    some (0, V9)
  else
  ck (ib p1 400) <|
  if (V 23 p1.toNatClampNeg) = 0 then
    cl (f_Na_copyMeaning V p1 p1) fun r8 V8 =>
    some (0, V8)
  else
  cl (f_Na_isCommon V (V 22 p1.toNatClampNeg)) fun r1 V1 =>
  if r1 = 0 then
    cl (f_Na_definer V1 (V 22 p1.toNatClampNeg)) fun r2 V2 =>
    if r2 = (-1) then
      ck (ib p1 400) <|
      if (V2 23 p1.toNatClampNeg) = 2 then
        cl (f_Na_setMeaning V2 p1 2 (-1) 0) fun r4 V4 =>
        some (0, V4)
      else
      cl (f_Na_setMeaning V2 p1 0 (-1) 0) fun r3 V3 =>
      some (0, V3)
    else
    cl (f_Na_definer V2 (V 22 p1.toNatClampNeg)) fun r5 V5 =>
    cl (f_Na_copyMeaning V5 p1 r5) fun r6 V6 =>
    some (0, V6)
  else
  cl (f_Na_setMeaning V1 p1 3 (V 22 p1.toNatClampNeg) 0) fun r7 V7 =>
  some (0, V7)
def f_Na_takeGlobal (V : Sto) (p1 : Int32) (p2 : Int32) : RT :=
  ck (ib p1 200) <|
  if (V 37 p1.toNatClampNeg) = (-1) then
    ck (ib p1 200) <| nm (sw V 37 p1.toNatClampNeg p2) fun V3 =>
    some (0, V3)
  else
  if (V 6 5) = (-1) then
    nm (sw V 6 5 p1) fun V1 =>
    some (0, V1)
  else
  if (V 6 5) ≤ p1 then
    some (0, V)
  else
  nm (sw V 6 5 p1) fun V2 =>
  some (0, V2)
def f_Na_takeWeak (V : Sto) (p1 : Int32) (p2 : Int32) : RT :=
  ck (ib p1 200) <|
  if (V 38 p1.toNatClampNeg) = (-1) then
    ck (ib p1 200) <| nm (sw V 38 p1.toNatClampNeg p2) fun V1 =>
    some (0, V1)
  else
  ck (ib p2 400) <|
  ck (ib p1 200) <|
  ck (ib (V 38 p1.toNatClampNeg) 400) <|
  if (V 21 (V 38 p1.toNatClampNeg).toNatClampNeg) ≤ (V 21 p2.toNatClampNeg) then
    some (0, V)
  else
  ck (ib p1 200) <| nm (sw V 38 p1.toNatClampNeg p2) fun V2 =>
  some (0, V2)
def f_Na_take (V : Sto) (p1 : Int32) : RT :=
  ck (ib p1 400) <|
  ck (ib p1 400) <|
  if (V 23 p1.toNatClampNeg) = 1 then
    cl (f_Na_takeGlobal V (V 22 p1.toNatClampNeg) p1) fun r1 V1 =>
    some (0, V1)
  else
  if (V 23 p1.toNatClampNeg) = 3 then
    ck (ib (V 22 p1.toNatClampNeg) 200) <|
    ck (ib p1 400) <|
    ck (ib (V 22 p1.toNatClampNeg) 200) <| nm (sw V 39 (V 22 p1.toNatClampNeg).toNatClampNeg (if (V 39 (V 22 p1.toNatClampNeg).toNatClampNeg) < (V 26 p1.toNatClampNeg) then (V 26 p1.toNatClampNeg) else (V 39 (V 22 p1.toNatClampNeg).toNatClampNeg))) fun V2 =>
    some (0, V2)
  else
  cl (f_Na_takeWeak V (V 22 p1.toNatClampNeg) p1) fun r2 V3 =>
  some (0, V3)
def lp_fill37_5 (x1 : Int32) (x3 : Int32) (k20 : Sto → RT) : Nat → Int32 → Sto → RT
  | 0, _, _ => none
  | n + 1, x2, V =>
    if x3 ≤ x2 then
      k20 V
    else
    ck (ib x2 200) <| nm (sw V 37 x2.toNatClampNeg x1) fun V1 =>
    lp_fill37_5 x1 x3 k20 n (x2 + 1) V1
def f_fill37 (V : Sto) (p1 : Int32) : RT :=
  lp_fill37_5 p1 (nI 200)
    (fun V2 =>
      some (0, V2)) FU 0 V
def lp_fill38_5 (x1 : Int32) (x3 : Int32) (k20 : Sto → RT) : Nat → Int32 → Sto → RT
  | 0, _, _ => none
  | n + 1, x2, V =>
    if x3 ≤ x2 then
      k20 V
    else
    ck (ib x2 200) <| nm (sw V 38 x2.toNatClampNeg x1) fun V1 =>
    lp_fill38_5 x1 x3 k20 n (x2 + 1) V1
def f_fill38 (V : Sto) (p1 : Int32) : RT :=
  lp_fill38_5 p1 (nI 200)
    (fun V2 =>
      some (0, V2)) FU 0 V
def lp_fill39_5 (x1 : Int32) (x3 : Int32) (k20 : Sto → RT) : Nat → Int32 → Sto → RT
  | 0, _, _ => none
  | n + 1, x2, V =>
    if x3 ≤ x2 then
      k20 V
    else
    ck (ib x2 200) <| nm (sw V 39 x2.toNatClampNeg x1) fun V1 =>
    lp_fill39_5 x1 x3 k20 n (x2 + 1) V1
def f_fill39 (V : Sto) (p1 : Int32) : RT :=
  lp_fill39_5 p1 (nI 200)
    (fun V2 =>
      some (0, V2)) FU 0 V
def lp_Na_settle_31 (k84 : Sto → RT) : Nat → Int32 → Sto → RT
  | 0, _, _ => none
  | n + 1, x1, V =>
    if (V 3 0) ≤ x1 then
      k84 V
    else
    ck (ib x1 400) <|
    ck (ib (V 21 x1.toNatClampNeg) 24) <|
    if (V 13 (V 21 x1.toNatClampNeg).toNatClampNeg) = 0 then
      lp_Na_settle_31 k84 n (x1 + 1) V
    else
    cl (f_Sy_givesName V x1) fun r4 V5 =>
    if r4 = 0 then
      lp_Na_settle_31 k84 n (x1 + 1) V5
    else
    cl (f_Na_take V5 x1) fun r5 V6 =>
    lp_Na_settle_31 k84 n (x1 + 1) V6
def lp_Na_settle_86 (k108 : Sto → RT) : Nat → Int32 → Sto → RT
  | 0, _, _ => none
  | n + 1, x1, V =>
    if (V 3 0) ≤ x1 then
      k108 V
    else
    cl (f_Na_giveMeaning V x1) fun r6 V8 =>
    lp_Na_settle_86 k108 n (x1 + 1) V8
def f_Na_settle (V : Sto) : RT :=
  cl (f_fill37 V (-1)) fun r1 V1 =>
  cl (f_fill38 V1 (-1)) fun r2 V2 =>
  cl (f_fill39 V2 0) fun r3 V3 =>
  nm (sw V3 6 5 (-1)) fun V4 =>
  lp_Na_settle_31
    (fun V7 =>
      lp_Na_settle_86
        (fun V9 =>
          some (0, V9)) FU 0 V7) FU 0 V4
def lp_Rc_firstMissing_2 (k60 : Int32 → Sto → RT) (k68 : Sto → RT) : Nat → Int32 → Sto → RT
  | 0, _, _ => none
  | n + 1, x1, V =>
    if (V 4 0) ≤ x1 then
      k68 V
    else
    ck (ib x1 600) <|
    ck (ib (V 32 x1.toNatClampNeg) 600) <|
    ck (ib (V 27 (V 32 x1.toNatClampNeg).toNatClampNeg) 96) <|
    if (V 43 (V 27 (V 32 x1.toNatClampNeg).toNatClampNeg).toNatClampNeg) = 0 then
      lp_Rc_firstMissing_2 k60 k68 n (x1 + 1) V
    else
    ck (ib (V 32 x1.toNatClampNeg) 600) <|
    ck (ib (V 30 (V 32 x1.toNatClampNeg).toNatClampNeg) 400) <|
    if (V 40 (V 30 (V 32 x1.toNatClampNeg).toNatClampNeg).toNatClampNeg) = 0 then
      k60 (V 32 x1.toNatClampNeg) V
    else
    lp_Rc_firstMissing_2 k60 k68 n (x1 + 1) V
def f_Rc_firstMissing (V : Sto) : RT :=
  lp_Rc_firstMissing_2
    (fun y1 V1 =>
      some (y1, V1))
    (fun V2 =>
      some ((-1), V2)) FU 0 V
def f_Rc_find (V : Sto) (p1 : Int32) : RT :=
  ck (ib p1 96) <|
  if (V 43 p1.toNatClampNeg) = 0 then
    ck (ib p1 96) <| nm (sw V 43 p1.toNatClampNeg 1) fun V1 =>
    ck (ib (V1 7 6) 96) <| nm (sw V1 45 (V1 7 6).toNatClampNeg p1) fun V2 =>
    nm (sw V2 7 6 ((V2 7 6) + 1)) fun V3 =>
    some (0, V3)
  else
  some (0, V)
def lp_Rc_forget_2 (k21 : Sto → RT) : Nat → Int32 → Sto → RT
  | 0, _, _ => none
  | n + 1, x1, V =>
    if 96 ≤ x1 then
      k21 V
    else
    ck (ib x1 96) <| nm (sw V 43 x1.toNatClampNeg 0) fun V1 =>
    lp_Rc_forget_2 k21 n (x1 + 1) V1
def lp_Rc_forget_23 (k43 : Sto → RT) : Nat → Int32 → Sto → RT
  | 0, _, _ => none
  | n + 1, x1, V =>
    if 200 ≤ x1 then
      k43 V
    else
    ck (ib x1 200) <| nm (sw V 44 x1.toNatClampNeg 0) fun V3 =>
    lp_Rc_forget_23 k43 n (x1 + 1) V3
def f_Rc_forget (V : Sto) : RT :=
  lp_Rc_forget_2
    (fun V2 =>
      lp_Rc_forget_23
        (fun V4 =>
          nm (sw V4 7 6 0) fun V5 =>
          some (0, V5)) FU 0 V2) FU 0 V
def f_Re_countOf (V : Sto) (p1 : Int32) : RT :=
  ck (ib (p1 + 1) 97) <|
  ck (ib p1 97) <|
  some ((V 33 (p1 + 1).toNatClampNeg) - (V 33 p1.toNatClampNeg), V)
def f_Re_pick (V : Sto) (p1 : Int32) (p2 : Int32) : RT :=
  ck (ib p1 97) <|
  ck (ib ((V 33 p1.toNatClampNeg) + p2) 600) <|
  some (V 32 ((V 33 p1.toNatClampNeg) + p2).toNatClampNeg, V)
def lp_Rc_spreadFrom_2 (x1 : Int32) (k95 : Sto → RT) : Nat → Int32 → Sto → RT
  | 0, _, _ => none
  | n + 1, x2, V =>
    cl (f_Re_countOf V x1) fun r1 V1 =>
    if r1 ≤ x2 then
      k95 V1
    else
    cl (f_Re_pick V1 x1 x2) fun r2 V2 =>
    ck (ib r2 600) <|
    ck (ib (V2 30 r2.toNatClampNeg) 400) <|
    if (V2 40 (V2 30 r2.toNatClampNeg).toNatClampNeg) = 1 then
      ck (ib (V2 30 r2.toNatClampNeg) 400) <|
      cl (f_Rc_find V2 (V2 41 (V2 30 r2.toNatClampNeg).toNatClampNeg)) fun r3 V4 =>
      lp_Rc_spreadFrom_2 x1 k95 n (x2 + 1) V4
    else
    ck (ib (V2 30 r2.toNatClampNeg) 400) <|
    if (V2 40 (V2 30 r2.toNatClampNeg).toNatClampNeg) = 3 then
      ck (ib (V2 30 r2.toNatClampNeg) 400) <|
      ck (ib (V2 41 (V2 30 r2.toNatClampNeg).toNatClampNeg) 200) <| nm (sw V2 44 (V2 41 (V2 30 r2.toNatClampNeg).toNatClampNeg).toNatClampNeg 1) fun V3 =>
      lp_Rc_spreadFrom_2 x1 k95 n (x2 + 1) V3
    else
    lp_Rc_spreadFrom_2 x1 k95 n (x2 + 1) V2
def f_Rc_spreadFrom (V : Sto) (p1 : Int32) : RT :=
  lp_Rc_spreadFrom_2 p1
    (fun V5 =>
      some (0, V5)) FU 0 V
