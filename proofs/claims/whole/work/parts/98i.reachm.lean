/-! The reference's reach, whole. -/
def entMiss (V W : Sto) : Bool := !decide (V 0 11 = -1) && !(icm W ((V 0 11).toNatClampNeg) || !decide (dfr W ((V 0 11).toNatClampNeg) = -1))
theorem reach_init {V W M : Sto} (h : WF V) {A : Nat → Bool} (hM : MB V A W M) {K : Sto → RT} {Q : RT → Prop} (hk : ∀ T, Only [23, 25, 26] M T → (∀ s, s < (V 2 0).toNatClampNeg → T 25 s = if ¬ V 20 s = 0 ∧ A ((V 15 s).toNatClampNeg) = true then 1 else 0) → (∀ s, s < (V 2 0).toNatClampNeg → T 26 s = nI s) → (∀ n, n < 200 → T 23 n = 0) → Q (K T)) : Q (lp_Mo_reach_2 (fun V7 => lp_Mo_reach_59 K FU 0 V7) FU 0 M) := by
  have hs1 := h.s1
  have hu1 := h.u1
  have l2 : ∀ T, Only [25, 26] M T → (∀ s, s < (V 2 0).toNatClampNeg → T 25 s = if ¬ V 20 s = 0 ∧ A ((V 15 s).toNatClampNeg) = true then 1 else 0) → (∀ s, s < (V 2 0).toNatClampNeg → T 26 s = nI s) → Q (lp_Mo_reach_59 K FU 0 T) := by
    intro T t1 t2 t3
    refine forK (L := lp_Mo_reach_59 K) (N := 200) (Inv := fun i X => Only [23] T X ∧ ∀ n, n < i → X 23 n = 0) (Q := Q) (by decide) ?_ ?_ 0 T (Nat.zero_le _) ⟨Only.refl, fun n hn => absurd hn (Nat.not_lt_zero _)⟩
    · rintro n i X hi ⟨x1, x2⟩ ih
      rw [lp_Mo_reach_59, if_neg (show ¬ (200 : Int32) ≤ nI i from nI_ge (b := 200) hi (by decide)), ib_nI hi (by decide), ck_mk, nm_mk, cI (by omega), nI1]
      refine ih _ ⟨x1.sw (by decide), fun n hn => ?_⟩
      rw [sw_at]
      by_cases e : n = i
      · rw [if_pos e]
      · rw [if_neg e]; exact x2 n (by omega)
    · rintro n X ⟨x1, x2⟩
      rw [lp_Mo_reach_59, if_pos (show (200 : Int32) ≤ nI 200 from nI_le (Nat.le_refl _) (by decide))]
      exact hk X ((t1.mono (by decide)).trans (x1.mono (by decide))) (by rw [x1 25 (by decide)]; exact t2) (by rw [x1 26 (by decide)]; exact t3) x2
  obtain ⟨K2, hK2⟩ : ∃ K2 : Sto → RT, (fun V7 => lp_Mo_reach_59 K FU 0 V7) = K2 := ⟨_, rfl⟩
  rw [hK2]
  have l2' : ∀ T, Only [25, 26] M T → (∀ s, s < (V 2 0).toNatClampNeg → T 25 s = if ¬ V 20 s = 0 ∧ A ((V 15 s).toNatClampNeg) = true then 1 else 0) → (∀ s, s < (V 2 0).toNatClampNeg → T 26 s = nI s) → Q (K2 T) := by rw [← hK2]; exact l2
  refine forK (L := lp_Mo_reach_2 K2) (N := (V 2 0).toNatClampNeg) (Inv := fun i X => Only [25, 26] M X ∧ ∀ s, s < i → X 25 s = (if ¬ V 20 s = 0 ∧ A ((V 15 s).toNatClampNeg) = true then 1 else 0) ∧ X 26 s = nI s) (Q := Q) (by omega) ?_ ?_ 0 M (Nat.zero_le _) ⟨Only.refl, fun n hn => absurd hn (Nat.not_lt_zero _)⟩
  · rintro n i X hi ⟨x1, x2⟩ ih
    have hMX : MB V A W X := hM.only x1 (by decide)
    have e20 : X 20 (V 15 i).toNatClampNeg = b2 (A ((V 15 i).toNatClampNeg)) := hMX.u _ (ib_lt (h.su i hi))
    rw [lp_Mo_reach_2, hMX.r.s0, if_neg (fun z => by have := (le_cnt h.s0 (by omega)).mp z; omega), ib_nI (show i < 96 by omega) (by decide), cI (by omega), hMX.r.kp, hMX.r.su, ib_mono (h.su i hi) hu1, e20, nI1]
    simp only [ck_mk, nm_mk]
    have go : ∀ x, x = (if ¬ V 20 i = 0 ∧ A ((V 15 i).toNatClampNeg) = true then (1 : Int32) else 0) → Q (lp_Mo_reach_2 K2 n (nI (i + 1)) (sw (sw X 25 i x) 26 i (nI i))) := by
      intro x hx
      refine ih _ ⟨(x1.sw (by decide)).sw (by decide), fun s hs => ?_⟩
      rw [sw_at, sw_ne (show (25 : Nat) ≠ 26 by decide), sw_at, sw_ne (show (26 : Nat) ≠ 25 by decide)]
      by_cases e : s = i
      · rw [if_pos e, if_pos e, e]; exact ⟨hx, rfl⟩
      · rw [if_neg e, if_neg e]; exact x2 s (by omega)
    by_cases c : V 20 i = 0
    · rw [if_pos c]
      exact go 0 (by rw [if_neg (fun z => z.1 c)])
    · rw [if_neg c]
      cases hA : A ((V 15 i).toNatClampNeg) with
      | false =>
        rw [if_pos b2f]
        exact go 0 (by rw [hA, if_neg (fun z => by cases z.2)])
      | true =>
        rw [if_neg b2t]
        exact go 1 (by rw [hA, if_pos ⟨c, rfl⟩])
  · rintro n X ⟨x1, x2⟩
    have hMX : MB V A W X := hM.only x1 (by decide)
    rw [lp_Mo_reach_2, hMX.r.s0, if_pos ((le_cnt h.s0 (by omega)).mpr (Nat.le_refl _))]
    exact l2' X x1 (fun s hs => (x2 s hs).1) (fun s hs => (x2 s hs).2)
theorem csz0 {V W M : Sto} (h : WF V) {A : Nat → Bool} (hN : NS V A W) (hM : NM V W M) {n : Nat} (hn : n < 200) (hd : dfr W n = -1) : M 22 n = 0 ↔ icm W n = false := by
  have hy1 := h.y1
  have h37 : W 37 n = -1 := by
    rcases hN.n.g n hn with ⟨g, -⟩ | ⟨y, g1, g2, -⟩
    · exact g
    · exfalso
      have hne : ¬ W 37 n = -1 := by rw [g2]; exact m1_ne y (by omega)
      unfold dfr at hd
      rw [if_neg hne] at hd
      exact hne hd
  have hcl := cz_le h (A := A) (n := n) ((V 3 0).toNatClampNeg) (Nat.le_refl _)
  rw [hM.c n hn, if_pos h37]
  unfold icm
  rw [decide_eq_true h37, Bool.true_and, hN.n.c n hn]
  have e : (nI (cz V A n ((V 3 0).toNatClampNeg)) ≤ 0) ↔ nI (cz V A n ((V 3 0).toNatClampNeg)) = 0 := by
    show (nI (cz V A n ((V 3 0).toNatClampNeg)) ≤ nI 0) ↔ nI (cz V A n ((V 3 0).toNatClampNeg)) = nI 0
    rw [nI_le_iff (by omega) (by omega), nI_eq (by omega) (by omega)]
    omega
  by_cases c : nI (cz V A n ((V 3 0).toNatClampNeg)) ≤ 0
  · rw [decide_eq_true c]; simp [e.mp c]
  · rw [decide_eq_false c]
    constructor
    · intro z; exact absurd (e.mpr z) c
    · intro z; cases z
theorem reach_miss {V W M : Sto} (h : WF V) {A : Nat → Bool} (hN : NS V A W) (hM : MB V A W M) (he : entMiss V W = true) : ∃ N, Only [23, 25, 26] M N ∧ f_Mo_reach M = some (0, flM N 2 (V 0 11) (-1)) := by
  unfold entMiss at he
  simp only [Bool.and_eq_true, Bool.not_eq_true', Bool.or_eq_false_iff, decide_eq_false_iff_not, Bool.not_eq_false', decide_eq_true_eq] at he
  obtain ⟨h1, h2, h3⟩ := he
  have hib : ib (V 0 11) 200 = true := h.en.resolve_left h1
  have hnl := ib_lt hib
  unfold f_Mo_reach
  refine reach_init h hM (Q := fun r => ∃ N, Only [23, 25, 26] M N ∧ r = some (0, flM N 2 (V 0 11) (-1))) (fun T t1 t2 t3 t4 => ?_)
  have hMT : MB V A W T := hM.only t1 (by decide)
  refine ⟨T, t1, ?_⟩
  rw [hMT.r.en, if_neg h1, hib, ck_mk, hMT.n.d _ hnl, if_pos h3, ck_mk, if_pos ((csz0 h hN hMT.n hnl h3).mpr h2), fail_eq, cl_mk]
  rfl
theorem reach_go {V W Y M : Sto} (h : WF V) {A : Nat → Bool} (hN : NS V A W) (hY : RS V A W Y) (h40 : Y 40 = W 40) (hM : MB V A W M) (he : entMiss V W = false) : ∃ N, Only [23, 25, 26] M N ∧ RM V Y N ∧ (∀ s, s < (V 2 0).toNatClampNeg → N 26 s = nI s) ∧ f_Mo_reach M = match (ord V).find? (misP Y V) with
    | some r => some (0, flM N 2 (V 22 (dY V r)) (nI r))
    | none => some (1, N) := by
  have hs1 := h.s1
  have hr1 := h.r1
  have hy1 := h.y1
  have hF : MFs V A W := fun y hy hA => (mean_eq h hN hM.n hM.r hy hA).2
  unfold f_Mo_reach
  refine reach_init h hM (Q := fun r => ∃ N, Only [23, 25, 26] M N ∧ RM V Y N ∧ (∀ s, s < (V 2 0).toNatClampNeg → N 26 s = nI s) ∧ r = match (ord V).find? (misP Y V) with
    | some r => some (0, flM N 2 (V 22 (dY V r)) (nI r))
    | none => some (1, N)) (fun T t1 t2 t3 t4 => ?_)
  have hMT : MB V A W T := hM.only t1 (by decide)
  have tail : ∀ X, Only [25] T X → (∀ s, s < (V 2 0).toNatClampNeg → X 25 s = 0 ∨ (X 25 s = 1 ∧ Rch V A W s)) → (∀ s, rtS V A W s → X 25 s = 1) → ∃ N, Only [23, 25, 26] M N ∧ RM V Y N ∧ (∀ s, s < (V 2 0).toNatClampNeg → N 26 s = nI s) ∧ (lp_Mo_reach_161 (fun V12 => lp_Mo_reach_206 (fun y3 V16 => ck (ib y3 600) <| ck (ib (V16 18 y3.toNatClampNeg) 400) <| cl (f_Mo_fail V16 2 (V16 13 (V16 18 y3.toNatClampNeg).toNatClampNeg) y3) fun r3 V17 => ck (bb r3) <| some (r3, V17)) (fun V18 => some (1, V18)) FU 0 V12) FU 1 X) = match (ord V).find? (misP Y V) with
    | some r => some (0, flM N 2 (V 22 (dY V r)) (nI r))
    | none => some (1, N) := by
    intro X x1 x2 x3
    have hMX : MB V A W X := hMT.only x1 (by decide)
    refine reach161 h hN hY hMX ⟨x2, fun n hn => Or.inl (by rw [x1 23 (by decide)]; exact t4 n hn)⟩ x3 (Q := fun r => ∃ N, Only [23, 25, 26] M N ∧ RM V Y N ∧ (∀ s, s < (V 2 0).toNatClampNeg → N 26 s = nI s) ∧ r = match (ord V).find? (misP Y V) with
    | some r => some (0, flM N 2 (V 22 (dY V r)) (nI r))
    | none => some (1, N)) (fun Z z1 z2 => ?_)
    have hMZ : MB V A W Z := hMX.only z1 (by decide)
    refine ⟨Z, (t1.trans (x1.mono (by decide))).trans (z1.mono (by decide)), z2, fun s hs => by rw [z1 26 (by decide), x1 26 (by decide)]; exact t3 s hs, ?_⟩
    rw [reach206 h hN hY h40 hMZ z2]
    cases hf : (ord V).find? (misP Y V) with
    | none => rfl
    | some r =>
      have hr := (ord_mem (List.mem_of_find?_eq_some hf)).1
      obtain ⟨yl, yu, ye⟩ := dY_lt h hr
      show ck (ib (nI r) 600) _ = _
      rw [ib_nI (show r < 600 by omega) (by decide), ck_mk, cI (show r < 2 ^ 31 by omega), hMZ.r.ry, ye, ib_nI (show dY V r < 400 by omega) (by decide), ck_mk, cI (show dY V r < 2 ^ 31 by omega), hMZ.r.yn, fail_eq, cl_mk]
      rfl
  have base : ∀ s, s < (V 2 0).toNatClampNeg → T 25 s = 0 ∨ (T 25 s = 1 ∧ Rch V A W s) := by
    intro s hs
    rw [t2 s hs]
    by_cases c : ¬ V 20 s = 0 ∧ A ((V 15 s).toNatClampNeg) = true
    · rw [if_pos c]; exact Or.inr ⟨rfl, Rch.root (Or.inl ⟨hs, c.1, c.2⟩)⟩
    · rw [if_neg c]; exact Or.inl rfl
  have kept : ∀ s, s < (V 2 0).toNatClampNeg → ¬ V 20 s = 0 → A ((V 15 s).toNatClampNeg) = true → T 25 s = 1 := fun s h1 h2 h3 => by rw [t2 s h1, if_pos ⟨h2, h3⟩]
  have plain : entS V W = -1 → ∃ N, Only [23, 25, 26] M N ∧ RM V Y N ∧ (∀ s, s < (V 2 0).toNatClampNeg → N 26 s = nI s) ∧ (lp_Mo_reach_161 (fun V12 => lp_Mo_reach_206 (fun y3 V16 => ck (ib y3 600) <| ck (ib (V16 18 y3.toNatClampNeg) 400) <| cl (f_Mo_fail V16 2 (V16 13 (V16 18 y3.toNatClampNeg).toNatClampNeg) y3) fun r3 V17 => ck (bb r3) <| some (r3, V17)) (fun V18 => some (1, V18)) FU 0 V12) FU 1 T) = match (ord V).find? (misP Y V) with
    | some r => some (0, flM N 2 (V 22 (dY V r)) (nI r))
    | none => some (1, N) := fun hE => tail T Only.refl base (fun s hs => by
      rcases hs with ⟨s1, s2, s3⟩ | ⟨s1, s2⟩
      · exact kept s s1 s2 s3
      · exact absurd (hE.symm.trans s2).symm (m1_ne s (by omega)))
  rw [hMT.r.en]
  rcases h.en with e | hib
  · rw [if_pos e]
    exact plain (by unfold entS; rw [if_pos e])
  · have hnl := ib_lt hib
    have hne := ib_ne hib
    rw [if_neg hne, hib, hMT.n.d _ hnl]
    simp only [ck_mk, jn_mk]
    by_cases c : dfr W ((V 0 11).toNatClampNeg) = -1
    · rw [if_pos c, if_pos c]
      have hic : icm W ((V 0 11).toNatClampNeg) = true := by
        cases hh : icm W ((V 0 11).toNatClampNeg) with
        | true => rfl
        | false =>
          unfold entMiss at he
          rw [decide_eq_false hne, hh, decide_eq_true c] at he
          cases he
      rw [if_neg (fun z => by rw [(csz0 h hN hMT.n hnl c).mp z] at hic; cases hic)]
      exact plain (by unfold entS; rw [if_neg hne, if_pos c])
    · rw [if_neg c, if_neg c]
      rcases hN.n.dfrO (by omega) hnl with d | ⟨d, d1, d2, d3⟩
      · exact absurd d c
      · rw [d2, ib_nI (show d < 400 by omega) (by decide), cI (show d < 2 ^ 31 by omega)]
        simp only [ck_mk]
        have hE : entS V W = V 25 d := by unfold entS; rw [if_neg hne, if_neg c, d2, cI (by omega)]
        have e10 : T 10 d = 0 ↔ V 24 d = 1 := by rw [hMT.r.yf d d1]; exact srt0
        rcases h.yf d d1 with ⟨f, -, f3⟩ | ⟨f, -, f3, f4⟩ | ⟨f, -, f3⟩ | ⟨f, -, f3, -⟩
        · rw [if_neg (fun z => by have := e10.mp z; rw [f] at this; exact absurd this (by decide))]
          exact plain (by rw [hE, f3])
        · have fl := ib_lt f3
          rw [if_pos (e10.mpr f), hMT.r.ys, ib_mono f3 hs1, ck_mk, nm_mk]
          have hEs : entS V W = nI ((V 25 d).toNatClampNeg) := by rw [hE]; exact ib_eq f3
          refine tail _ (Only.refl.sw (by decide)) (fun s hs => ?_) (fun s hs => ?_)
          · rw [sw_at]
            by_cases g : s = (V 25 d).toNatClampNeg
            · rw [if_pos g]; exact Or.inr ⟨rfl, Rch.root (Or.inr ⟨hs, by rw [g]; exact hEs⟩)⟩
            · rw [if_neg g]; exact base s hs
          · rw [sw_at]
            by_cases g : s = (V 25 d).toNatClampNeg
            · rw [if_pos g]
            · rw [if_neg g]
              rcases hs with ⟨s1, s2, s3⟩ | ⟨s1, s2⟩
              · exact kept s s1 s2 s3
              · rw [hEs] at s2
                exact absurd ((nI_eq (by omega) (by omega)).mp s2).symm g
        · rw [if_neg (fun z => by have := e10.mp z; rw [f] at this; exact absurd this (by decide))]
          exact plain (by rw [hE, f3])
        · rw [if_neg (fun z => by have := e10.mp z; rw [f] at this; exact absurd this (by decide))]
          exact plain (by rw [hE, f3])
