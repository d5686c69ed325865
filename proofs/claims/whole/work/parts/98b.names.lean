/-! Names settled: what each symbol means. -/
theorem fill37_eq (V : Sto) (x : Int32) : ∃ W, f_fill37 V x = some (0, W) ∧ Only [37] V W ∧ ∀ j, j < 200 → W 37 j = x := by
  unfold f_fill37
  refine forK (L := lp_fill37_5 x (nI 200) (fun V2 => some (0, V2))) (N := 200) (Inv := fun i S => Only [37] V S ∧ ∀ j, j < i → S 37 j = x) (Q := fun r => ∃ W, r = some (0, W) ∧ Only [37] V W ∧ ∀ j, j < 200 → W 37 j = x) (by decide) ?_ ?_ 0 V (Nat.zero_le _) ⟨Only.refl, fun j hj => absurd hj (Nat.not_lt_zero _)⟩
  · rintro n i S hi ⟨h1, h2⟩ ih
    rw [lp_fill37_5, if_neg (nI_ge hi (by decide)), ib_nI hi (by decide), ck_mk, nm_mk, cI (by omega), nI1]
    refine ih _ ⟨h1.sw (by decide), fun j hj => ?_⟩
    rw [sw_at]
    by_cases e : j = i
    · rw [if_pos e]
    · rw [if_neg e]; exact h2 j (by omega)
  · rintro n S ⟨h1, h2⟩
    rw [lp_fill37_5, if_pos (nI_le (Nat.le_refl _) (by decide))]
    exact ⟨S, rfl, h1, h2⟩
theorem fill38_eq (V : Sto) (x : Int32) : ∃ W, f_fill38 V x = some (0, W) ∧ Only [38] V W ∧ ∀ j, j < 200 → W 38 j = x := by
  unfold f_fill38
  refine forK (L := lp_fill38_5 x (nI 200) (fun V2 => some (0, V2))) (N := 200) (Inv := fun i S => Only [38] V S ∧ ∀ j, j < i → S 38 j = x) (Q := fun r => ∃ W, r = some (0, W) ∧ Only [38] V W ∧ ∀ j, j < 200 → W 38 j = x) (by decide) ?_ ?_ 0 V (Nat.zero_le _) ⟨Only.refl, fun j hj => absurd hj (Nat.not_lt_zero _)⟩
  · rintro n i S hi ⟨h1, h2⟩ ih
    rw [lp_fill38_5, if_neg (nI_ge hi (by decide)), ib_nI hi (by decide), ck_mk, nm_mk, cI (by omega), nI1]
    refine ih _ ⟨h1.sw (by decide), fun j hj => ?_⟩
    rw [sw_at]
    by_cases e : j = i
    · rw [if_pos e]
    · rw [if_neg e]; exact h2 j (by omega)
  · rintro n S ⟨h1, h2⟩
    rw [lp_fill38_5, if_pos (nI_le (Nat.le_refl _) (by decide))]
    exact ⟨S, rfl, h1, h2⟩
theorem fill39_eq (V : Sto) (x : Int32) : ∃ W, f_fill39 V x = some (0, W) ∧ Only [39] V W ∧ ∀ j, j < 200 → W 39 j = x := by
  unfold f_fill39
  refine forK (L := lp_fill39_5 x (nI 200) (fun V2 => some (0, V2))) (N := 200) (Inv := fun i S => Only [39] V S ∧ ∀ j, j < i → S 39 j = x) (Q := fun r => ∃ W, r = some (0, W) ∧ Only [39] V W ∧ ∀ j, j < 200 → W 39 j = x) (by decide) ?_ ?_ 0 V (Nat.zero_le _) ⟨Only.refl, fun j hj => absurd hj (Nat.not_lt_zero _)⟩
  · rintro n i S hi ⟨h1, h2⟩ ih
    rw [lp_fill39_5, if_neg (nI_ge hi (by decide)), ib_nI hi (by decide), ck_mk, nm_mk, cI (by omega), nI1]
    refine ih _ ⟨h1.sw (by decide), fun j hj => ?_⟩
    rw [sw_at]
    by_cases e : j = i
    · rw [if_pos e]
    · rw [if_neg e]; exact h2 j (by omega)
  · rintro n S ⟨h1, h2⟩
    rw [lp_fill39_5, if_pos (nI_le (Nat.le_refl _) (by decide))]
    exact ⟨S, rfl, h1, h2⟩
theorem fill53_eq (V : Sto) (x : Int32) : ∃ W, f_fill53 V x = some (0, W) ∧ Only [53] V W ∧ ∀ j, j < 600 → W 53 j = x := by
  unfold f_fill53
  refine forK (L := lp_fill53_5 x (nI 600) (fun V2 => some (0, V2))) (N := 600) (Inv := fun i S => Only [53] V S ∧ ∀ j, j < i → S 53 j = x) (Q := fun r => ∃ W, r = some (0, W) ∧ Only [53] V W ∧ ∀ j, j < 600 → W 53 j = x) (by decide) ?_ ?_ 0 V (Nat.zero_le _) ⟨Only.refl, fun j hj => absurd hj (Nat.not_lt_zero _)⟩
  · rintro n i S hi ⟨h1, h2⟩ ih
    rw [lp_fill53_5, if_neg (nI_ge hi (by decide)), ib_nI hi (by decide), ck_mk, nm_mk, cI (by omega), nI1]
    refine ih _ ⟨h1.sw (by decide), fun j hj => ?_⟩
    rw [sw_at]
    by_cases e : j = i
    · rw [if_pos e]
    · rw [if_neg e]; exact h2 j (by omega)
  · rintro n S ⟨h1, h2⟩
    rw [lp_fill53_5, if_pos (nI_le (Nat.le_refl _) (by decide))]
    exact ⟨S, rfl, h1, h2⟩
theorem fill48_eq (V : Sto) (x : Int32) : ∃ W, f_fill48 V x = some (0, W) ∧ Only [48] V W ∧ ∀ j, j < 96 → W 48 j = x := by
  unfold f_fill48
  refine forK (L := lp_fill48_5 x (nI 96) (fun V2 => some (0, V2))) (N := 96) (Inv := fun i S => Only [48] V S ∧ ∀ j, j < i → S 48 j = x) (Q := fun r => ∃ W, r = some (0, W) ∧ Only [48] V W ∧ ∀ j, j < 96 → W 48 j = x) (by decide) ?_ ?_ 0 V (Nat.zero_le _) ⟨Only.refl, fun j hj => absurd hj (Nat.not_lt_zero _)⟩
  · rintro n i S hi ⟨h1, h2⟩ ih
    rw [lp_fill48_5, if_neg (nI_ge hi (by decide)), ib_nI hi (by decide), ck_mk, nm_mk, cI (by omega), nI1]
    refine ih _ ⟨h1.sw (by decide), fun j hj => ?_⟩
    rw [sw_at]
    by_cases e : j = i
    · rw [if_pos e]
    · rw [if_neg e]; exact h2 j (by omega)
  · rintro n S ⟨h1, h2⟩
    rw [lp_fill48_5, if_pos (nI_le (Nat.le_refl _) (by decide))]
    exact ⟨S, rfl, h1, h2⟩
theorem fill49_eq (V : Sto) (x : Int32) : ∃ W, f_fill49 V x = some (0, W) ∧ Only [49] V W ∧ ∀ j, j < 200 → W 49 j = x := by
  unfold f_fill49
  refine forK (L := lp_fill49_5 x (nI 200) (fun V2 => some (0, V2))) (N := 200) (Inv := fun i S => Only [49] V S ∧ ∀ j, j < i → S 49 j = x) (Q := fun r => ∃ W, r = some (0, W) ∧ Only [49] V W ∧ ∀ j, j < 200 → W 49 j = x) (by decide) ?_ ?_ 0 V (Nat.zero_le _) ⟨Only.refl, fun j hj => absurd hj (Nat.not_lt_zero _)⟩
  · rintro n i S hi ⟨h1, h2⟩ ih
    rw [lp_fill49_5, if_neg (nI_ge hi (by decide)), ib_nI hi (by decide), ck_mk, nm_mk, cI (by omega), nI1]
    refine ih _ ⟨h1.sw (by decide), fun j hj => ?_⟩
    rw [sw_at]
    by_cases e : j = i
    · rw [if_pos e]
    · rw [if_neg e]; exact h2 j (by omega)
  · rintro n S ⟨h1, h2⟩
    rw [lp_fill49_5, if_pos (nI_le (Nat.le_refl _) (by decide))]
    exact ⟨S, rfl, h1, h2⟩
def icm (W : Sto) (n : Nat) : Bool := decide (W 37 n = -1) && !decide (W 39 n ≤ 0)
def dfr (W : Sto) (n : Nat) : Int32 := if W 37 n = -1 then (if icm W n = true then -1 else W 38 n) else W 37 n
def mng (V : Sto) (A : Nat → Bool) (W : Sto) (y : Nat) : Int32 × Int32 × Int32 :=
  if A (dU V y) = false then (-1, -1, 0) else if V 23 y = 0 then (V 24 y, V 25 y, V 26 y) else if icm W (dN V y) = true then (3, V 22 y, 0) else
  if dfr W (dN V y) = -1 then (if V 23 y = 2 then (2, -1, 0) else (0, -1, 0)) else (V 24 ((dfr W (dN V y)).toNatClampNeg), V 25 ((dfr W (dN V y)).toNatClampNeg), V 26 ((dfr W (dN V y)).toNatClampNeg))
theorem icm_congr {W X : Sto} (h7 : X 37 = W 37) (h9 : X 39 = W 39) (n : Nat) : icm X n = icm W n := by unfold icm; rw [h7, h9]
theorem dfr_congr {W X : Sto} (h7 : X 37 = W 37) (h8 : X 38 = W 38) (h9 : X 39 = W 39) (n : Nat) : dfr X n = dfr W n := by unfold dfr; rw [h7, h8, icm_congr h7 h9]
theorem mng_congr {V W X : Sto} {A : Nat → Bool} (h7 : X 37 = W 37) (h8 : X 38 = W 38) (h9 : X 39 = W 39) (y : Nat) : mng V A X y = mng V A W y := by unfold mng; rw [dfr_congr h7 h8 h9, icm_congr h7 h9]
theorem isCommonC_eq {W : Sto} {n : Nat} (hn : n < 200) : f_Na_isCommon W (nI n) = some (b2 (icm W n), W) := by
  unfold f_Na_isCommon icm
  rw [ib_nI hn (by decide), ck_mk, ck_mk, cI (by omega)]
  by_cases c : W 37 n = -1
  · rw [if_pos c, decide_eq_true c]
    by_cases d : W 39 n ≤ 0
    · rw [if_pos d, decide_eq_true d]; rfl
    · rw [if_neg d, decide_eq_false d]; rfl
  · rw [if_neg c, decide_eq_false c]; rfl
theorem definer_eq {W : Sto} {n : Nat} (hn : n < 200) : f_Na_definer W (nI n) = some (dfr W n, W) := by
  unfold f_Na_definer dfr
  rw [ib_nI hn (by decide), ck_mk, isCommonC_eq hn, cl_mk, ck_mk, cI (by omega)]
  by_cases c : W 37 n = -1
  · rw [if_pos c, if_pos c]
    cases hh : icm W n with
    | true => rw [if_neg b2t, if_pos rfl]
    | false => rw [if_pos b2f]; rfl
  · rw [if_neg c, if_neg c]; rfl
theorem isDefined_eq {W : Sto} {n : Nat} (hn : n < 200) : f_Na_isDefined W (nI n) = some (b2 (icm W n || !decide (dfr W n = -1)), W) := by
  unfold f_Na_isDefined
  rw [isCommonC_eq hn, cl_mk, definer_eq hn, cl_mk]
  cases hh : icm W n with
  | true => rw [if_neg b2t]; rfl
  | false =>
    rw [if_pos b2f]
    by_cases c : dfr W n = -1
    · rw [if_pos c, decide_eq_true c]; rfl
    · rw [if_neg c, decide_eq_false c]; rfl
theorem sectionOfC_eq {W : Sto} {n : Nat} (hn : n < 200) (hd : dfr W n = -1 ∨ ib (dfr W n) 400 = true) : f_Na_sectionOf W (nI n) = some (if dfr W n = -1 then -1 else W 25 ((dfr W n).toNatClampNeg), W) := by
  unfold f_Na_sectionOf
  rw [definer_eq hn, cl_mk]
  rcases hd with c | c
  · rw [if_pos c, if_pos c]
  · rw [if_neg (ib_ne c), if_neg (ib_ne c), c, ck_mk]
def setM (W : Sto) (y : Nat) (t : Int32 × Int32 × Int32) : Sto := sw (sw (sw W 40 y t.1) 41 y t.2.1) 42 y t.2.2
theorem setM_eq {W : Sto} {y : Nat} (hy : y < 400) (a b c : Int32) : f_Na_setMeaning W (nI y) a b c = some (0, setM W y (a, b, c)) := by
  unfold f_Na_setMeaning setM
  rw [ib_nI hy (by decide), cI (by omega)]
  rfl
theorem give_eq {V W : Sto} (h : WF V) (hd : Dat V W) {A : Nat → Bool} (hin : ∀ u, u < (V 1 0).toNatClampNeg → W 13 u = b2 (A u)) (hdf : ∀ n, n < 200 → dfr W n = -1 ∨ ib (dfr W n) ((V 3 0).toNatClampNeg) = true) {y : Nat} (hy : y < (V 3 0).toNatClampNeg) : f_Na_giveMeaning W (nI y) = some (0, setM W y (mng V A W y)) := by
  have hy1 := h.y1
  have hu1 := h.u1
  have d21 := hd 21 rfl
  have d22 := hd 22 rfl
  have d23 := hd 23 rfl
  have d24 := hd 24 rfl
  have d25 := hd 25 rfl
  have d26 := hd 26 rfl
  have hn := h.yn y hy
  have hnl : dN V y < 200 := ib_lt hn
  have e22 : V 22 y = nI (dN V y) := ib_eq hn
  have hul : dU V y < (V 1 0).toNatClampNeg := ib_lt (h.yu y hy)
  have cp : ∀ d, ib d 400 = true → f_Na_copyMeaning W (nI y) d = some (0, setM W y (V 24 (d.toNatClampNeg), V 25 (d.toNatClampNeg), V 26 (d.toNatClampNeg))) := by
    intro d hd2
    unfold f_Na_copyMeaning
    rw [hd2, d24, d25, d26]
    simp only [ck_mk]
    rw [setM_eq (by omega), cl_mk]
  have e13 : W 13 (V 21 y).toNatClampNeg = b2 (A (dU V y)) := hin _ hul
  unfold f_Na_giveMeaning mng
  rw [ib_nI (show y < 400 by omega) (by decide)]
  simp only [ck_mk]
  rw [cI (by omega), d21, ib_mono (h.yu y hy) hu1, ck_mk, e13, d23, d22]
  cases hA : A (dU V y) with
  | false => rw [if_pos b2f, if_pos rfl, setM_eq (by omega), cl_mk]
  | true =>
    rw [if_neg b2t, if_neg (show ¬ true = false by decide)]
    by_cases c1 : V 23 y = 0
    · rw [if_pos c1, if_pos c1, cp _ (ib_nI (by omega) (by decide)), cl_mk, cI (by omega)]
    · rw [if_neg c1, if_neg c1]
      have ec : f_Na_isCommon W (V 22 y) = some (b2 (icm W (dN V y)), W) := by rw [e22]; exact isCommonC_eq hnl
      have ed : f_Na_definer W (V 22 y) = some (dfr W (dN V y), W) := by rw [e22]; exact definer_eq hnl
      rw [ec, cl_mk]
      cases hc : icm W (dN V y) with
      | true => rw [if_neg b2t, if_pos rfl, setM_eq (by omega), cl_mk]
      | false =>
        rw [if_pos b2f, if_neg (show ¬ false = true by decide), ed]
        simp only [cl_mk]
        rcases hdf _ hnl with c2 | c2
        · rw [if_pos c2, if_pos c2, d23, setM_eq (by omega), setM_eq (by omega), cl_mk, cl_mk]
          by_cases c3 : V 23 y = 2
          · rw [if_pos c3, if_pos c3]
          · rw [if_neg c3, if_neg c3]
        · rw [if_neg (ib_ne c2), if_neg (ib_ne c2), ed, cl_mk, cp _ (ib_mono c2 hy1), cl_mk]
theorem N1.dfrO {V : Sto} {A : Nat → Bool} {i : Nat} {W : Sto} (h : N1 V A i W) (hi : i < 2 ^ 31) {n : Nat} (hn : n < 200) : dfr W n = -1 ∨ ∃ y, y < i ∧ dfr W n = nI y ∧ (gB V A 1 n y = true ∨ gB V A 2 n y = true) := by
  unfold dfr
  rcases h.g n hn with ⟨g1, g2⟩ | ⟨y, g1, g2, g3⟩
  · rw [if_pos g1]
    cases hc : icm W n with
    | true => rw [if_pos rfl]; exact Or.inl rfl
    | false =>
      rw [if_neg (show ¬ false = true by decide)]
      rcases h.w n hn with ⟨w1, w2⟩ | ⟨y, w1, w2, w3, w4⟩
      · exact Or.inl w1
      · exact Or.inr ⟨y, w1, w2, Or.inr w3⟩
  · rw [if_neg (by rw [g2]; exact m1_ne y (by omega))]
    exact Or.inr ⟨y, g1, g2, Or.inl g3⟩
theorem N1.congr {V : Sto} {A : Nat → Bool} {i : Nat} {W X : Sto} (h : N1 V A i W) (h6 : X 6 = W 6) (h7 : X 37 = W 37) (h8 : X 38 = W 38) (h9 : X 39 = W 39) : N1 V A i X := by
  unfold N1
  rw [h6, h7, h8, h9]
  exact h
def NS (V : Sto) (A : Nat → Bool) (W : Sto) : Prop :=
  (N1 V A ((V 3 0).toNatClampNeg) W) ∧
  (∀ y, y < (V 3 0).toNatClampNeg → W 40 y = (mng V A W y).1) ∧
  (∀ y, y < (V 3 0).toNatClampNeg → W 41 y = (mng V A W y).2.1) ∧
  (∀ y, y < (V 3 0).toNatClampNeg → W 42 y = (mng V A W y).2.2)
theorem NS.n {V : Sto} {A : Nat → Bool} {W : Sto} (h : NS V A W) : N1 V A ((V 3 0).toNatClampNeg) W := h.1
theorem NS.m {V : Sto} {A : Nat → Bool} {W : Sto} (h : NS V A W) : ∀ y, y < (V 3 0).toNatClampNeg → W 40 y = (mng V A W y).1 := h.2.1
theorem NS.w {V : Sto} {A : Nat → Bool} {W : Sto} (h : NS V A W) : ∀ y, y < (V 3 0).toNatClampNeg → W 41 y = (mng V A W y).2.1 := h.2.2.1
theorem NS.v {V : Sto} {A : Nat → Bool} {W : Sto} (h : NS V A W) : ∀ y, y < (V 3 0).toNatClampNeg → W 42 y = (mng V A W y).2.2 := h.2.2.2
theorem settle_eq {V S : Sto} (h : WF V) (hd : Dat V S) {A : Nat → Bool} (hin : ∀ u, u < (V 1 0).toNatClampNeg → S 13 u = b2 (A u)) : ∃ W, f_Na_settle S = some (0, W) ∧ Only [6, 37, 38, 39, 40, 41, 42] S W ∧ NS V A W := by
  have hy1 := h.y1
  have hu1 := h.u1
  obtain ⟨S1, s1, o1, f1⟩ := fill37_eq S (-1)
  obtain ⟨S2, s2, o2, f2⟩ := fill38_eq S1 (-1)
  obtain ⟨S3, s3, o3, f3⟩ := fill39_eq S2 0
  unfold f_Na_settle
  rw [s1, cl_mk, s2, cl_mk, s3, cl_mk, nm_mk]
  have o4 : Only [6, 37, 38, 39] S (sw S3 6 5 (-1)) := by
    refine Only.sw (by decide) (fun q hq => ?_)
    simp at hq
    rw [o3 q (by simp [hq]), o2 q (by simp [hq]), o1 q (by simp [hq])]
  have n0 : N1 V A 0 (sw S3 6 5 (-1)) := by
    refine ⟨fun n hn => Or.inl ⟨?_, fun y hy => absurd hy (Nat.not_lt_zero _)⟩, fun n hn => Or.inl ⟨?_, fun y hy => absurd hy (Nat.not_lt_zero _)⟩, fun n hn => ?_, Or.inl ⟨?_, fun n hn => ?_⟩⟩
    · rw [sw_ne (by decide), o3 37 (by decide), o2 37 (by decide)]; exact f1 n hn
    · rw [sw_ne (by decide), o3 38 (by decide)]; exact f2 n hn
    · rw [sw_ne (by decide)]; exact f3 n hn
    · rw [sw_at, if_pos rfl]
    · rintro ⟨y, z, -, hz, -⟩
      exact absurd hz (Nat.not_lt_zero _)
  have l2 : ∀ T : Sto, Only [6, 37, 38, 39] S T → N1 V A ((V 3 0).toNatClampNeg) T → ∃ W, lp_Na_settle_86 (fun V9 => some (0, V9)) FU 0 T = some (0, W) ∧ Only [6, 37, 38, 39, 40, 41, 42] S W ∧ NS V A W := by
    intro T hT hN
    refine forK (L := lp_Na_settle_86 (fun V9 => some (0, V9))) (N := (V 3 0).toNatClampNeg) (Inv := fun i X => Only [40, 41, 42] T X ∧ ∀ y, y < i → X 40 y = (mng V A T y).1 ∧ X 41 y = (mng V A T y).2.1 ∧ X 42 y = (mng V A T y).2.2) (Q := fun r => ∃ W, r = some (0, W) ∧ Only [6, 37, 38, 39, 40, 41, 42] S W ∧ NS V A W) (by omega) ?_ ?_ 0 T (Nat.zero_le _) ⟨Only.refl, fun y hy => absurd hy (Nat.not_lt_zero _)⟩
    · rintro n i X hi ⟨x1, x2⟩ ih
      have hO : Only [6, 37, 38, 39, 40, 41, 42] S X := (hT.mono (by decide)).trans (x1.mono (by decide))
      have hD : Dat V X := hd.only hO (by decide)
      have x37 : X 37 = T 37 := x1 37 (by decide)
      have x38 : X 38 = T 38 := x1 38 (by decide)
      have x39 : X 39 = T 39 := x1 39 (by decide)
      rw [lp_Na_settle_86, hD 3 rfl, if_neg (fun z => by have := (le_cnt h.y0 (by omega)).mp z; omega)]
      rw [give_eq (A := A) h hD (fun u hu => by rw [hO 13 (by decide)]; exact hin u hu) (fun n hn => by
        rw [dfr_congr x37 x38 x39]
        rcases hN.dfrO (by omega) hn with e | ⟨y, e1, e2, -⟩
        · exact Or.inl e
        · rw [e2]; exact Or.inr (ib_nI e1 (by omega))) hi, cl_mk, nI1, mng_congr x37 x38 x39]
      refine ih _ ⟨((x1.sw (by decide)).sw (by decide)).sw (by decide), fun y hy => ?_⟩
      unfold setM
      rw [sw_at, sw_ne (show (40 : Nat) ≠ 42 by decide), sw_ne (show (40 : Nat) ≠ 41 by decide), sw_at, sw_ne (show (41 : Nat) ≠ 42 by decide), sw_at, sw_ne (show (42 : Nat) ≠ 41 by decide), sw_ne (show (42 : Nat) ≠ 40 by decide), sw_ne (show (41 : Nat) ≠ 40 by decide)]
      by_cases e : y = i
      · rw [if_pos e, if_pos e, if_pos e, e]; exact ⟨rfl, rfl, rfl⟩
      · rw [if_neg e, if_neg e, if_neg e]; exact x2 y (by omega)
    · rintro n X ⟨x1, x2⟩
      have hO : Only [6, 37, 38, 39, 40, 41, 42] S X := (hT.mono (by decide)).trans (x1.mono (by decide))
      have hD : Dat V X := hd.only hO (by decide)
      have x37 : X 37 = T 37 := x1 37 (by decide)
      have x38 : X 38 = T 38 := x1 38 (by decide)
      have x39 : X 39 = T 39 := x1 39 (by decide)
      rw [lp_Na_settle_86, hD 3 rfl, if_pos ((le_cnt h.y0 (by omega)).mpr (Nat.le_refl _))]
      refine ⟨X, rfl, hO, hN.congr (x1 6 (by decide)) x37 x38 x39, fun y hy => ?_, fun y hy => ?_, fun y hy => ?_⟩
      · rw [mng_congr x37 x38 x39]; exact (x2 y hy).1
      · rw [mng_congr x37 x38 x39]; exact (x2 y hy).2.1
      · rw [mng_congr x37 x38 x39]; exact (x2 y hy).2.2
  obtain ⟨K, hK⟩ : ∃ K : Sto → RT, (fun V7 => lp_Na_settle_86 (fun V9 => some (0, V9)) FU 0 V7) = K := ⟨_, rfl⟩
  rw [hK]
  have hk : ∀ T : Sto, Only [6, 37, 38, 39] S T → N1 V A ((V 3 0).toNatClampNeg) T → ∃ W, K T = some (0, W) ∧ Only [6, 37, 38, 39, 40, 41, 42] S W ∧ NS V A W := by
    rw [← hK]; exact l2
  refine forK (L := lp_Na_settle_31 K) (N := (V 3 0).toNatClampNeg) (Inv := fun i X => Only [6, 37, 38, 39] S X ∧ N1 V A i X) (Q := fun r => ∃ W, r = some (0, W) ∧ Only [6, 37, 38, 39, 40, 41, 42] S W ∧ NS V A W) (by omega) ?_ ?_ 0 _ (Nat.zero_le _) ⟨o4, n0⟩
  · rintro n i X hi ⟨x1, x2⟩ ih
    have hD : Dat V X := hd.only x1 (by decide)
    have hul : dU V i < (V 1 0).toNatClampNeg := ib_lt (h.yu i hi)
    have e13 : X 13 (V 21 i).toNatClampNeg = b2 (A (dU V i)) := by rw [x1 13 (by decide)]; exact hin _ hul
    rw [lp_Na_settle_31, hD 3 rfl, if_neg (fun z => by have := (le_cnt h.y0 (by omega)).mp z; omega), ib_nI (show i < 400 by omega) (by decide), ck_mk, cI (by omega), hD 21 rfl, ib_mono (h.yu i hi) hu1, ck_mk, e13, nI1, gives_eq (by omega), cl_mk, hD 23 rfl, hD 24 rfl]
    cases hA : A (dU V i) with
    | false =>
      rw [if_pos b2f]
      exact ih X ⟨x1, x2.skip (fun b n hb => gB_f (fun z => by rw [hA] at z; cases z.1))⟩
    | true =>
      rw [if_neg b2t]
      by_cases c1 : V 23 i = 0
      · rw [decide_eq_true c1]
        rw [show (!true && !decide (V 24 i = 0)) = false from rfl, if_pos b2f]
        exact ih X ⟨x1, x2.skip (fun b n hb => gB_f (fun z => hb (by rw [← z.2.2.1]; exact c1)))⟩
      · by_cases c2 : V 24 i = 0
        · rw [decide_eq_true c2, Bool.not_true, Bool.and_false, if_pos b2f]
          exact ih X ⟨x1, x2.skip (fun b n hb => gB_f (fun z => z.2.1 c2))⟩
        · rw [decide_eq_false c1, decide_eq_false c2]
          rw [show (!false && !false) = true from rfl, if_neg b2t]
          obtain ⟨Y, y1, y2, y3⟩ := take_eq h hD hi x2 hA c2 c1
          rw [y1, cl_mk]
          exact ih Y ⟨x1.trans y2, y3⟩
  · rintro n X ⟨x1, x2⟩
    have hD : Dat V X := hd.only x1 (by decide)
    rw [lp_Na_settle_31, hD 3 rfl, if_pos ((le_cnt h.y0 (by omega)).mpr (Nat.le_refl _))]
    exact hk X x1 x2
