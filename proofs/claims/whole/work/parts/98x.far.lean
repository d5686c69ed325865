/-! Branches too far, jumps misplaced, words mended. -/
def gl (V X : Sto) (r : Nat) : Int32 := if X 53 r = -1 then tgC V X r else X 9 7 + X 53 r * 8
def farP (V F X : Sto) (r : Nat) : Bool := decide (V 29 r = 4) && (stg F (sec V r) && !nearB (wyC V X (gl V X r) r))
def jmpP (V F X : Sto) (r : Nat) : Bool := decide (V 29 r = 5) && (stg F (sec V r) && !decide (tgC V X r - tgC V X r / 4 * 4 = 0))
theorem goalOf_eq {V X : Sto} (h : WF V) {r : Nat} (hr : r < (V 4 0).toNatClampNeg) : f_Is_goalOf X (nI r) (tgC V X r) = some (gl V X r, X) := by
  have hr1 := h.r1
  unfold f_Is_goalOf gl
  rw [ib_nI (show r < 600 by omega) (by decide), ck_mk, cI (by omega)]
  by_cases c : X 53 r = -1
  · rw [if_pos c, if_pos c]
  · rw [if_neg c, if_neg c]
theorem isMended_eq {V S F X : Sto} (h : WF V) (hC : CT V S F) (hX : Only LC F X) {r : Nat} (hr : r < (V 4 0).toNatClampNeg) (k : Int32) : f_Me_isMended X (nI r) k = some (b2 (decide (V 29 r = k) && stg F (sec V r)), X) := by
  have hr1 := h.r1
  have hs1 := h.s1
  have hdX : Dat V X := hC.d.only hX (by decide)
  obtain ⟨s1, s2⟩ := sec_lt h hr
  unfold f_Me_isMended
  rw [ib_nI (show r < 600 by omega) (by decide), ck_mk, ck_mk, cI (by omega), hdX 27 rfl, hdX 29 rfl, s2, isStanding_eq hX (by omega), cl_mk]
  by_cases c1 : V 29 r = k
  · rw [if_pos c1, decide_eq_true c1]
    cases stg F (sec V r) with
    | false => rw [if_pos b2f]; rfl
    | true => rw [if_neg b2t]; rfl
  · rw [if_neg c1, decide_eq_false c1]; rfl
theorem firstFar_eq {V S F X : Sto} (h : WF V) (hC : CT V S F) (hX : Only LC F X) : f_Me_firstFar X = some (fnd V (farP V F X), X) := by
  have hr1 := h.r1
  have hdX : Dat V X := hC.d.only hX (by decide)
  have hq : OrdQ V X := hC.o.keep (hX 32 (by decide)) (hX 33 (by decide))
  have key := searchC h hq (L := lp_Me_firstFar_2 (fun y1 V5 => some (y1, V5)) (fun V6 => some ((-1), V6))) (P := farP V F X) (kf := fun y1 V5 => some (y1, V5)) (kn := fun V6 => some ((-1), V6)) (by
    intro n i r hi h32 hr hs
    rw [lp_Me_firstFar_2, hdX 4 rfl, if_neg (fun z => by have := (le_cnt h.r0 (by omega)).mp z; omega), ib_nI (show i < 600 by omega) (by decide), ck_mk, cI (show i < 2 ^ 31 by omega), h32, isMended_eq h hC hX hr, cl_mk, nI1]
    unfold farP
    by_cases c1 : V 29 r = 4
    · rw [decide_eq_true c1, Bool.true_and, Bool.true_and]
      cases hst : stg F (sec V r) with
      | false => rw [if_pos b2f, Bool.false_and, if_neg (by decide)]
      | true =>
        rw [if_neg b2t, targetOf_eq h hC hX hr (stg_43 hst).1, cl_mk, goalOf_eq h hr, cl_mk, isNearC_eq h hdX hr, cl_mk, Bool.true_and]
        cases nearB (wyC V X (gl V X r) r) with
        | false => rw [if_pos b2f]; rfl
        | true => rw [if_neg b2t]; rfl
    · rw [decide_eq_false c1, Bool.false_and, Bool.false_and, if_pos b2f, if_neg (by decide)]) (by
    intro n
    rw [lp_Me_firstFar_2, hdX 4 rfl, if_pos ((le_cnt h.r0 (by omega)).mpr (Nat.le_refl _))])
  unfold f_Me_firstFar
  refine Eq.trans key ?_
  unfold fnd
  cases (ord V).find? (farP V F X) <;> rfl
theorem firstJump_eq {V S F X : Sto} (h : WF V) (hC : CT V S F) (hX : Only LC F X) : f_Me_firstMisplacedJump X = some (fnd V (jmpP V F X), X) := by
  have hr1 := h.r1
  have hdX : Dat V X := hC.d.only hX (by decide)
  have hq : OrdQ V X := hC.o.keep (hX 32 (by decide)) (hX 33 (by decide))
  have key := searchC h hq (L := lp_Me_firstMisplacedJump_2 (fun y1 V3 => some (y1, V3)) (fun V4 => some ((-1), V4))) (P := jmpP V F X) (kf := fun y1 V3 => some (y1, V3)) (kn := fun V4 => some ((-1), V4)) (by
    intro n i r hi h32 hr hs
    rw [lp_Me_firstMisplacedJump_2, hdX 4 rfl, if_neg (fun z => by have := (le_cnt h.r0 (by omega)).mp z; omega), ib_nI (show i < 600 by omega) (by decide), ck_mk, cI (show i < 2 ^ 31 by omega), h32, isMended_eq h hC hX hr, cl_mk, nI1]
    unfold jmpP
    by_cases c1 : V 29 r = 5
    · rw [decide_eq_true c1, Bool.true_and, Bool.true_and]
      cases hst : stg F (sec V r) with
      | false => rw [if_pos b2f, Bool.false_and, if_neg (by decide)]
      | true =>
        rw [if_neg b2t, targetOf_eq h hC hX hr (stg_43 hst).1, cl_mk, Bool.true_and]
        by_cases c2 : tgC V X r - tgC V X r / 4 * 4 = 0
        · rw [if_pos c2, decide_eq_true c2]; rfl
        · rw [if_neg c2, decide_eq_false c2]; rfl
    · rw [decide_eq_false c1, Bool.false_and, Bool.false_and, if_pos b2f, if_neg (by decide)]) (by
    intro n
    rw [lp_Me_firstMisplacedJump_2, hdX 4 rfl, if_pos ((le_cnt h.r0 (by omega)).mpr (Nat.le_refl _))])
  unfold f_Me_firstMisplacedJump
  refine Eq.trans key ?_
  unfold fnd
  cases (ord V).find? (jmpP V F X) <;> rfl
theorem isl_addr {V S F X Y : Sto} {b c : Nat} (hI : IQ V S F b X Y c) {r : Nat} (hr : r < (V 4 0).toNatClampNeg) (h53 : ¬ X 53 r = -1) : Y 0 49 + 8 * Y 30 r = gl V X r := by
  obtain ⟨e, o⟩ := hI.i.is r hr
  rcases o with o | ⟨i, i1, i2⟩
  · exact absurd o h53
  · unfold gl
    rw [if_neg h53, e, hI.m.i (by omega), hI.l.i, Int32.mul_comm]
theorem checkFar_eq {V S F X Y : Sto} (h : WF V) (hC : CT V S F) {b c : Nat} (hI : IQ V S F b X Y c) (hn : (ord V).find? (strP V F X) = none) : f_Mo_checkFar Y = match (ord V).find? (farP V F X) with
    | some r => some (0, flM Y 3 (-1) (nI r))
    | none => some (1, Y) := by
  have hr1 := h.r1
  have hs1 := h.s1
  have hY := hI.y
  have hX := hI.x
  have key := searchM h (M := Y) (P := farP V F X) (kf := fun y2 V8 => cl (f_Mo_fail V8 3 (-1) y2) fun r6 V9 => ck (bb r6) <| some (r6, V9)) (kn := fun V10 => some (1, V10)) (Lo := lp_Mo_checkFar_2 (fun y2 V8 => cl (f_Mo_fail V8 3 (-1) y2) fun r6 V9 => ck (bb r6) <| some (r6, V9)) (fun V10 => some (1, V10))) (Li := fun s k => lp_Mo_checkFar_12 (nI s) (fun y1 V6 => cl (f_Mo_fail V6 3 (-1) y1) fun r6 V9 => ck (bb r6) <| some (r6, V9)) k) (by
    intro n s hs
    rw [lp_Mo_checkFar_2, hY.m.r.s0, if_neg (fun z => by have := (le_cnt h.s0 (by omega)).mp z; omega), nI1, nI_0]) (by
    intro n
    rw [lp_Mo_checkFar_2, hY.m.r.s0, if_pos ((le_cnt h.s0 (by omega)).mpr (Nat.le_refl _))]) (by
    intro s k n r hs hr
    obtain ⟨sl, se⟩ := sec_lt h hr
    show lp_Mo_checkFar_12 (nI s) (fun y1 V6 => cl (f_Mo_fail V6 3 (-1) y1) fun r6 V9 => ck (bb r6) <| some (r6, V9)) k (n + 1) (nI r) Y = if (decide (sec V r = s) && farP V F X r) = true then (cl (f_Mo_fail Y 3 (-1) (nI r)) fun r6 V9 => ck (bb r6) <| some (r6, V9)) else lp_Mo_checkFar_12 (nI s) (fun y1 V6 => cl (f_Mo_fail V6 3 (-1) y1) fun r6 V9 => ck (bb r6) <| some (r6, V9)) k n (nI (r + 1)) Y
    obtain ⟨K, hK⟩ : ∃ K : Int32 → Sto → RT, (fun y1 V6 => cl (f_Mo_fail V6 3 (-1) y1) fun r6 V9 => ck (bb r6) <| some (r6, V9)) = K := ⟨_, rfl⟩
    have hK' : (cl (f_Mo_fail Y 3 (-1) (nI r)) fun r6 V9 => ck (bb r6) <| some (r6, V9)) = K (nI r) Y := by rw [← hK]
    rw [hK, hK']
    rw [lp_Mo_checkFar_12, hY.m.r.r0, if_neg (fun z => by have := (le_cnt h.r0 (by omega)).mp z; omega), ib_nI (show s < 96 by omega) (by decide), ib_nI (show r < 600 by omega) (by decide), cI (show s < 2 ^ 31 by omega), cI (show r < 2 ^ 31 by omega), hY.m.r.rs, hY.m.r.rt, se, stays_eq h hY hs, nI1]
    rw [ck_mk, ck_mk]
    by_cases c0 : sec V r = s
    · rw [if_pos (by rw [c0]), decide_eq_true c0, Bool.true_and]
      unfold farP
      rw [c0]
      by_cases c1 : V 29 r = 4
      · rw [if_pos c1, decide_eq_true c1, Bool.true_and, cl_mk]
        cases hst : stg F s with
        | false => rw [if_pos b2f, Bool.false_and, if_neg (by decide)]
        | true =>
          have h3 : ¬ F 43 (sec V r) = 0 := by rw [c0]; exact (stg_43 hst).1
          rw [if_neg b2t, Bool.true_and, ck_mk, (hI.i.is r hr).1, hY.m.r.sk]
          by_cases c3 : X 53 r = -1
          · have eg : gl V X r = tgC V X r := by unfold gl; rw [if_pos c3]
            rw [if_pos c3, ck_mk, eg]
            by_cases c2 : V 16 s = 1
            · rw [if_pos c2, isNearT_eq h hC hX hY hI.ad hr h3, cl_mk]
              cases nearB (wyC V X (tgC V X r) r) with
              | false => rw [if_pos b2f]; rfl
              | true => rw [if_neg b2t]; rfl
            · rw [if_neg c2]
              have c4 : V 16 s = 0 := by
                rcases ib3c (h.sk s hs) with e | e | e
                · exact e
                · exact absurd e c2
                · exact absurd (by rw [← c0] at e; exact e) (h.rs r hr).2
              have hP := List.find?_eq_none.mp hn r (mem_ord h hr)
              unfold strP goP at hP
              rw [c0, decide_eq_true c3, decide_eq_true c1, decide_eq_true c4, hst] at hP
              have : nearB (wyC V X (tgC V X r) r) = true := by
                cases hh : nearB (wyC V X (tgC V X r) r) with
                | true => rfl
                | false => rw [hh] at hP; exact absurd rfl hP
              rw [this]
              rfl
          · rw [if_neg c3, ck_mk]
            unfold f_Mo_islandAt
            rw [cl_mk, placeAt_eq h hY hI.ad hr h3, cl_mk, isNearM_eq, cl_mk]
            have := isl_addr hI hr c3
            rw [(hI.i.is r hr).1] at this
            rw [this]
            show (if b2 (nearB (wyC V X (gl V X r) r)) = 0 then _ else _) = _
            cases nearB (wyC V X (gl V X r) r) with
            | false => rw [if_pos b2f]; rfl
            | true => rw [if_neg b2t]; rfl
      · rw [if_neg c1, decide_eq_false c1, Bool.false_and, if_neg (by decide)]
    · rw [if_neg (show ¬ nI (sec V r) = nI s from fun z => c0 ((nI_eq (by omega) (by omega)).mp z)), decide_eq_false c0, Bool.false_and, if_neg (by decide)]) (by
    intro s k n hs
    show lp_Mo_checkFar_12 (nI s) (fun y1 V6 => cl (f_Mo_fail V6 3 (-1) y1) fun r6 V9 => ck (bb r6) <| some (r6, V9)) k (n + 1) (nI ((V 4 0).toNatClampNeg)) Y = k Y
    rw [lp_Mo_checkFar_12, hY.m.r.r0, if_pos ((le_cnt h.r0 (by omega)).mpr (Nat.le_refl _))])
  unfold f_Mo_checkFar
  refine Eq.trans key ?_
  cases (ord V).find? (farP V F X) with
  | none => rfl
  | some r =>
    show (cl (f_Mo_fail Y 3 (-1) (nI r)) fun r6 V9 => ck (bb r6) <| some (r6, V9)) = _
    rw [fail_eq, cl_mk]
    rfl
def sh16 : UInt32 := Int32.toUInt32 16 &&& Int32.toUInt32 31
def sh2 : UInt32 := Int32.toUInt32 2 &&& Int32.toUInt32 31
def mdv (V X : Sto) (w : Int32) (r : Nat) : Int32 :=
  if V 29 r = 0 then w + tgC V X r else if V 29 r = 1 then (w + tgC V X r) - plC V X r else if V 29 r = 2 then (w &&& (-65536)) ||| ((((tgC V X r + 32768).toUInt32 >>> (Int32.toUInt32 16 &&& Int32.toUInt32 31)).toInt32) &&& 65535) else
  if V 29 r = 3 then (w &&& (-65536)) ||| (tgC V X r &&& 65535) else if V 29 r = 4 then (w &&& (-65536)) ||| (((gl V X r - (plC V X r + 4)) / 4) &&& 65535) else (w &&& (-67108864)) ||| (((tgC V X r).toUInt32 >>> (Int32.toUInt32 2 &&& Int32.toUInt32 31)).toInt32 &&& 67108863)
theorem hi16 (x : UInt32) : ((x >>> (Int32.toUInt32 16 &&& Int32.toUInt32 31)).toInt32) &&& 65535 = (x >>> (Int32.toUInt32 16 &&& Int32.toUInt32 31)).toInt32 := by
  have e16 : (Int32.toUInt32 16 &&& Int32.toUInt32 31) = (16 : UInt32) := by decide
  rw [e16]
  refine Int32.toBitVec_inj.mp (BitVec.eq_of_toNat_eq ?_)
  rw [Int32.toBitVec_and, BitVec.toNat_and]
  have h1 : ((x >>> (16 : UInt32)).toInt32).toBitVec.toNat = x.toNat / 65536 := by
    show (x >>> (16 : UInt32)).toNat = _
    rw [UInt32.toNat_shiftRight]
    rw [show (16 : UInt32).toNat % 32 = 16 from rfl, Nat.shiftRight_eq_div_pow]
  have h2 : (65535 : Int32).toBitVec.toNat = 2 ^ 16 - 1 := by decide
  have hx : x.toNat < 2 ^ 32 := x.toNat_lt
  rw [h1, h2, Nat.and_two_pow_sub_one_eq_mod, Nat.mod_eq_of_lt]
  omega
theorem sub4 (a p : Int32) : a - p - 4 = a - (p + 4) := by rw [Int32.sub_sub]
theorem mendC_eq {V S F X : Sto} (h : WF V) (hC : CT V S F) (hX : Only LC F X) {r : Nat} (hr : r < (V 4 0).toNatClampNeg) (h3 : ¬ F 43 (sec V r) = 0) (w : Int32) : f_Me_mend X w (nI r) = some (mdv V X w r, X) := by
  have hr1 := h.r1
  have hdX : Dat V X := hC.d.only hX (by decide)
  unfold f_Me_mend mdv
  rw [targetOf_eq h hC hX hr h3, cl_mk, placeOf_eq h hdX hr, cl_mk, ib_nI (show r < 600 by omega) (by decide), ck_mk, cI (by omega), hdX 29 rfl, goalOf_eq h hr]
  unfold f_Me_withLowerHalf f_Me_wordsBetween
  rw [cl_mk, cl_mk, cl_mk, cl_mk, cl_mk]
  by_cases c0 : V 29 r = 0
  · rw [if_pos c0, if_pos c0]
  · rw [if_neg c0, if_neg c0]
    by_cases c1 : V 29 r = 1
    · rw [if_pos c1, if_pos c1]
    · rw [if_neg c1, if_neg c1]
      by_cases c2 : V 29 r = 2
      · rw [if_pos c2, if_pos c2]
      · rw [if_neg c2, if_neg c2]
        by_cases c3 : V 29 r = 3
        · rw [if_pos c3, if_pos c3]
        · rw [if_neg c3, if_neg c3]
          by_cases c4 : V 29 r = 4
          · rw [if_pos c4, if_pos c4]
          · rw [if_neg c4, if_neg c4]
theorem mendOne_eq {V S F X Y : Sto} (h : WF V) (hC : CT V S F) {b c : Nat} (hI : IQ V S F b X Y c) {Z : Sto} (hZ : Only [29] Y Z) {r : Nat} (hr : r < (V 4 0).toNatClampNeg) (hst : stg F (sec V r) = true) : f_Mo_mendOne Z (nI r) = if jmpP V F X r = true then some (0, flM Z 5 (-1) (nI r)) else some (1, sw Z 29 ((V 19 (sec V r)).toNatClampNeg + (V 28 r).toNatClampNeg / 4) (mdv V X (Z 29 ((V 19 (sec V r)).toNatClampNeg + (V 28 r).toNatClampNeg / 4)) r)) := by
  have hr1 := h.r1
  have hs1 := h.s1
  have h3 := (stg_43 hst).1
  have hX := hI.x
  have hMZ : MX V F Z := hI.y.only hZ (by decide)
  have hA : AD V F X Z := ⟨fun s hs hz => by rw [hZ 27 (by decide)]; exact hI.ad.s s hs hz, fun n hn hz => by rw [hZ 24 (by decide)]; exact hI.ad.n n hn hz⟩
  obtain ⟨y1, -, y3⟩ := dY_lt h hr
  obtain ⟨s1, s2⟩ := sec_lt h hr
  obtain ⟨p1, p2⟩ := h.rp r hr
  have psz := ib_lt (h.sz (sec V r) s1).1
  have pl : (V 28 r).toNatClampNeg < (V 17 (sec V r)).toNatClampNeg := ib_lt p1
  have hw := wix_lt h s1 (h.rs r hr).2 pl p2
  have hl1 := h.l1
  have ht1 := h.t1
  have ew : V 19 (sec V r) + V 28 r / 4 = nI ((V 19 (sec V r)).toNatClampNeg + (V 28 r).toNatClampNeg / 4) := wix_eq h s1 (ib_mono p1 (by show (V 17 (sec V r)).toNatClampNeg ≤ 100000; omega))
  have hwl : (V 19 (sec V r)).toNatClampNeg + (V 28 r).toNatClampNeg / 4 < 100000 := by
    have : wix V (sec V r) ((V 28 r).toNatClampNeg) = (V 19 (sec V r)).toNatClampNeg + (V 28 r).toNatClampNeg / 4 := rfl
    omega
  unfold f_Mo_mendOne
  rw [ib_nI (show r < 600 by omega) (by decide), ck_mk, cI (show r < 2 ^ 31 by omega), hMZ.m.r.rs, s2, ib_nI (show sec V r < 96 by omega) (by decide), ck_mk, cI (show sec V r < 2 ^ 31 by omega), hMZ.m.r.fw, hMZ.m.r.rp, ew, ib_nI hwl (by decide), cI (show (V 19 (sec V r)).toNatClampNeg + (V 28 r).toNatClampNeg / 4 < 2 ^ 31 by omega), hMZ.m.r.ry, y3, meaning_eq h hC hX hMZ hA y1 (hC.a r hr h3) (hC.r r hr h3).1 (hC.r r hr h3).2]
  simp only [ck_mk, cl_mk, nm_mk, jn_mk]
  rw [hMZ.m.r.rt, hMZ.m.r.ra, placeAt_eq h hMZ hA hr h3]
  simp only [cl_mk]
  have et : adO X (dY V r) + V 31 r = tgC V X r := rfl
  rw [et]
  obtain ⟨k, hk⟩ : ∃ k, (V 19 (sec V r)).toNatClampNeg + (V 28 r).toNatClampNeg / 4 = k := ⟨_, rfl⟩
  rw [hk]
  have jn5 : ¬ V 29 r = 5 → jmpP V F X r = false := fun z => by unfold jmpP; rw [decide_eq_false z, Bool.false_and]
  have fin : ∀ w, mdv V X (Z 29 k) r = w → jmpP V F X r = false → some ((1 : Int32), sw Z 29 k w) = if jmpP V F X r = true then some (0, flM Z 5 (-1) (nI r)) else some (1, sw Z 29 k (mdv V X (Z 29 k) r)) := by
    intro w hw hj
    rw [hj, if_neg (show ¬ false = true by decide), hw]
  by_cases c0 : V 29 r = 0
  · rw [if_pos c0]
    exact fin _ (by unfold mdv; rw [if_pos c0]) (jn5 (by rw [c0]; decide))
  · rw [if_neg c0]
    by_cases c1 : V 29 r = 1
    · rw [if_pos c1]
      exact fin _ (by unfold mdv; rw [if_neg c0, if_pos c1]) (jn5 (by rw [c1]; decide))
    · rw [if_neg c1]
      by_cases c2 : V 29 r = 2
      · rw [if_pos c2]
        exact fin _ (by unfold mdv; rw [if_neg c0, if_neg c1, if_pos c2, hi16]) (jn5 (by rw [c2]; decide))
      · rw [if_neg c2]
        by_cases c3 : V 29 r = 3
        · rw [if_pos c3]
          exact fin _ (by unfold mdv; rw [if_neg c0, if_neg c1, if_neg c2, if_pos c3]) (jn5 (by rw [c3]; decide))
        · rw [if_neg c3]
          by_cases c4 : V 29 r = 4
          · rw [if_pos c4]
            have e30 : Z 30 r = X 53 r := by rw [hZ 30 (by decide)]; exact (hI.i.is r hr).1
            by_cases c5 : X 53 r = -1
            · rw [if_pos (by rw [e30]; exact c5)]
              exact fin _ (by unfold mdv gl; rw [if_neg c0, if_neg c1, if_neg c2, if_neg c3, if_pos c4, if_pos c5, sub4]) (jn5 (by rw [c4]; decide))
            · rw [if_neg (by rw [e30]; exact c5)]
              unfold f_Mo_islandAt
              rw [cl_mk, placeAt_eq h hMZ hA hr h3, cl_mk]
              have ea : Z 0 49 + 8 * Z 30 r = gl V X r := by rw [hZ 0 (by decide), hZ 30 (by decide)]; exact isl_addr hI hr c5
              rw [ea]
              exact fin _ (by unfold mdv; rw [if_neg c0, if_neg c1, if_neg c2, if_neg c3, if_pos c4, sub4]) (jn5 (by rw [c4]; decide))
          · rw [if_neg c4]
            have c5 : V 29 r = 5 := by
              have h1 := ib_eq (h.rt r hr)
              have h2 := ib_lt (h.rt r hr)
              have h3' : (V 29 r).toNatClampNeg = 0 ∨ (V 29 r).toNatClampNeg = 1 ∨ (V 29 r).toNatClampNeg = 2 ∨ (V 29 r).toNatClampNeg = 3 ∨ (V 29 r).toNatClampNeg = 4 ∨ (V 29 r).toNatClampNeg = 5 := by omega
              rcases h3' with e | e | e | e | e | e
              · rw [e] at h1; exact absurd h1 c0
              · rw [e] at h1; exact absurd h1 c1
              · rw [e] at h1; exact absurd h1 c2
              · rw [e] at h1; exact absurd h1 c3
              · rw [e] at h1; exact absurd h1 c4
              · rw [e] at h1; exact h1
            by_cases c6 : tgC V X r - tgC V X r / 4 * 4 = 0
            · rw [if_pos c6]
              exact fin _ (by unfold mdv; rw [if_neg c0, if_neg c1, if_neg c2, if_neg c3, if_neg c4]) (by unfold jmpP; rw [decide_eq_true c6, Bool.not_true, Bool.and_false, Bool.and_false])
            · rw [if_neg c6]
              have hj : jmpP V F X r = true := by unfold jmpP; rw [decide_eq_true c5, hst, decide_eq_false c6]; rfl
              rw [hj, if_pos rfl, fail_eq, cl_mk]
              rfl
