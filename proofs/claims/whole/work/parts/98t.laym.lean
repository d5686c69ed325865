/-! A layout, the reference's way. -/
def MX (V F X : Sto) : Prop :=
  (MB V (inS V) F X) ∧
  (RM V F X) ∧
  (∀ s, s < (V 2 0).toNatClampNeg → X 26 s = F 46 s)
theorem MX.m {V F X : Sto} (h : MX V F X) : MB V (inS V) F X := h.1
theorem MX.q {V F X : Sto} (h : MX V F X) : RM V F X := h.2.1
theorem MX.l {V F X : Sto} (h : MX V F X) : ∀ s, s < (V 2 0).toNatClampNeg → X 26 s = F 46 s := h.2.2
theorem MX.only {V F X Y : Sto} {L : List Nat} (h : MX V F X) (ho : Only L X Y) (hl : ∀ q ∈ L, q = 24 ∨ 26 < q) : MX V F Y := by
  refine ⟨h.m.only ho (fun q hq => by have := hl q hq; omega), ⟨?_, ?_⟩, ?_⟩
  · rw [ho 25 (fun z => by have := hl 25 z; omega)]; exact h.q.r
  · rw [ho 23 (fun z => by have := hl 23 z; omega)]; exact h.q.n
  · rw [ho 26 (fun z => by have := hl 26 z; omega)]; exact h.l
theorem MX.c0 {V F X : Sto} (h : MX V F X) {j : Nat} {x : Int32} (hj : j ∉ [1, 3, 10, 11, 13, 20, 26, 27, 28]) : MX V F (sw X 0 j x) := by
  refine ⟨⟨h.m.r.c0 hj, ⟨?_, ?_⟩, ?_⟩, ⟨?_, ?_⟩, ?_⟩
  · rw [sw_ne (by decide)]; exact h.m.n.d
  · rw [sw_ne (by decide)]; exact h.m.n.c
  · rw [sw_ne (by decide)]; exact h.m.u
  · rw [sw_ne (by decide)]; exact h.q.r
  · rw [sw_ne (by decide)]; exact h.q.n
  · rw [sw_ne (by decide)]; exact h.l
theorem stays_eq {V F X : Sto} (h : WF V) (hX : MX V F X) {s : Nat} (hs : s < (V 2 0).toNatClampNeg) : f_Mo_stays X (nI s) = some (b2 (stg F s), X) := by
  have hs1 := h.s1
  unfold f_Mo_stays stg
  rw [ib_nI (show s < 96 by omega) (by decide), cI (by omega), hX.q.r s hs, hX.l s hs]
  simp only [ck_mk]
  by_cases c1 : F 43 s = 0
  · rw [if_pos c1, decide_eq_true c1]; rfl
  · rw [if_neg c1, decide_eq_false c1]
    by_cases c2 : F 46 s = nI s
    · rw [if_pos c2, decide_eq_true c2]; rfl
    · rw [if_neg c2, decide_eq_false c2]; rfl
theorem layKind_eq {V F X : Sto} (h : WF V) (hX : MX V F X) {k : Int32} {v : Nat} (hv : v < 2 ^ 27) : ∃ Y, f_Mo_layKind X k (nI v) = some (nI (pk V F k v ((V 2 0).toNatClampNeg)), Y) ∧ Only [27] X Y ∧ (∀ s, s < (V 2 0).toNatClampNeg → stg F s = true → V 16 s = k → Y 27 s = nI (adk V F k v s)) ∧ ∀ s, ¬ (stg F s = true ∧ V 16 s = k) → Y 27 s = X 27 s := by
  have hs1 := h.s1
  unfold f_Mo_layKind
  have key := forK (σ := Int32 × Sto) (L := fun n i Y => lp_Mo_layKind_5 k (fun y1 V4 => some (y1, V4)) n Y.1 i Y.2) (N := (V 2 0).toNatClampNeg) (Inv := fun i Y => Only [27] X Y.2 ∧ Y.1 = nI (pk V F k v i) ∧ (∀ s, s < i → stg F s = true → V 16 s = k → Y.2 27 s = nI (adk V F k v s)) ∧ ∀ s, ¬ (stg F s = true ∧ V 16 s = k) → Y.2 27 s = X 27 s) (Q := fun r => ∃ Y, r = some (nI (pk V F k v ((V 2 0).toNatClampNeg)), Y) ∧ Only [27] X Y ∧ (∀ s, s < (V 2 0).toNatClampNeg → stg F s = true → V 16 s = k → Y 27 s = nI (adk V F k v s)) ∧ ∀ s, ¬ (stg F s = true ∧ V 16 s = k) → Y 27 s = X 27 s) (by omega) (by
    rintro n i ⟨x, Y⟩ hi ⟨y1, y2, y3, y4⟩ ih
    simp only at y1 y2 y3 y4
    have hY : MX V F Y := hX.only y1 (by decide)
    have hpl := pk_ub (F := F) h k v i (by omega)
    have eps : pk V F k v (i + 1) = if stg F i = true ∧ V 16 i = k then upN (pk V F k v i) ((V 18 i).toNatClampNeg) + (V 17 i).toNatClampNeg else pk V F k v i := rfl
    show ∃ Z, lp_Mo_layKind_5 k (fun y1 V4 => some (y1, V4)) (n + 1) x (nI i) Y = _ ∧ _
    rw [lp_Mo_layKind_5, hY.m.r.s0, if_neg (fun z => by have := (le_cnt h.s0 (by omega)).mp z; omega), stays_eq h hY hi, ib_nI (show i < 96 by omega) (by decide), cI (by omega), nI1]
    simp only [ck_mk, cl_mk, nm_mk]
    have skip : ¬ (stg F i = true ∧ V 16 i = k) → ∃ Z, lp_Mo_layKind_5 k (fun y1 V4 => some (y1, V4)) n x (nI (i + 1)) Y = some (nI (pk V F k v ((V 2 0).toNatClampNeg)), Z) ∧ Only [27] X Z ∧ (∀ s, s < (V 2 0).toNatClampNeg → stg F s = true → V 16 s = k → Z 27 s = nI (adk V F k v s)) ∧ ∀ s, ¬ (stg F s = true ∧ V 16 s = k) → Z 27 s = X 27 s := by
      intro hc
      refine ih (x, Y) ⟨y1, by show x = nI (pk V F k v (i + 1)); rw [eps, if_neg hc]; exact y2, fun s hs z1 z2 => ?_, y4⟩
      by_cases e : s = i
      · subst e; exact absurd ⟨z1, z2⟩ hc
      · exact y3 s (by omega) z1 z2
    cases hst : stg F i with
    | false =>
      rw [if_pos b2f]
      exact skip (fun z => by rw [hst] at z; cases z.1)
    | true =>
      rw [if_neg b2t, hY.m.r.sk, hY.m.r.al]
      by_cases c2 : V 16 i = k
      · rw [if_pos c2]
        obtain ⟨e, e1, e2, e3, e4, e5⟩ := al_e h hi
        have ez := ib_eq (h.sz i hi).1
        rw [e3, y2, upM_eq (by omega) (by omega), cl_mk, sw_ne (show (4 : Nat) ≠ 27 by decide), hY.m.r.sz, ez, nI_add]
        refine ih (nI (upN (pk V F k v i) (2 ^ e) + (V 17 i).toNatClampNeg), sw Y 27 i (nI (upN (pk V F k v i) (2 ^ e)))) ⟨y1.sw (by decide), ?_, fun s hs z1 z2 => ?_, fun s hz => ?_⟩
        · show nI (upN (pk V F k v i) (2 ^ e) + (V 17 i).toNatClampNeg) = nI (pk V F k v (i + 1))
          rw [eps, if_pos ⟨hst, c2⟩, e4]
        · show sw Y 27 i _ 27 s = _
          rw [sw_at]
          by_cases g : s = i
          · rw [if_pos g, g]
            unfold adk
            rw [e4]
          · rw [if_neg g]; exact y3 s (by omega) z1 z2
        · show sw Y 27 i _ 27 s = _
          rw [sw_at, if_neg (fun g => by subst g; exact hz ⟨hst, c2⟩)]
          exact y4 s hz
      · rw [if_neg c2]
        exact skip (fun z => c2 z.2)) (by
    rintro n ⟨x, Y⟩ ⟨y1, y2, y3, y4⟩
    simp only at y1 y2 y3 y4
    have hY : MX V F Y := hX.only y1 (by decide)
    show ∃ Z, lp_Mo_layKind_5 k (fun y1 V4 => some (y1, V4)) (n + 1) x (nI ((V 2 0).toNatClampNeg)) Y = _ ∧ _
    rw [lp_Mo_layKind_5, hY.m.r.s0, if_pos ((le_cnt h.s0 (by omega)).mpr (Nat.le_refl _)), y2]
    exact ⟨Y, rfl, y1, y3, y4⟩) 0 (nI v, X) (Nat.zero_le _) ⟨Only.refl, rfl, fun s hs => absurd hs (Nat.not_lt_zero _), fun _ _ => rfl⟩
  exact key
def LM (V F : Sto) (b c : Nat) (X : Sto) : Prop :=
  (X 0 34 = nI (cm F (t4 V F b c) 200)) ∧
  (0 < c → X 0 49 = nI (upN (t1 V F b) 4)) ∧
  (∀ s, s < (V 2 0).toNatClampNeg → ¬ F 43 s = 0 → X 27 s = nI (adF V F b c s)) ∧
  (∀ n, n < 200 → ¬ F 44 n = 0 → X 24 n = nI (upN (cm F (t4 V F b c) n) 4)) ∧
  (X 0 33 = nI b)
theorem LM.e {V F : Sto} {b c : Nat} {X : Sto} (h : LM V F b c X) : X 0 34 = nI (cm F (t4 V F b c) 200) := h.1
theorem LM.i {V F : Sto} {b c : Nat} {X : Sto} (h : LM V F b c X) : 0 < c → X 0 49 = nI (upN (t1 V F b) 4) := h.2.1
theorem LM.a {V F : Sto} {b c : Nat} {X : Sto} (h : LM V F b c X) : ∀ s, s < (V 2 0).toNatClampNeg → ¬ F 43 s = 0 → X 27 s = nI (adF V F b c s) := h.2.2.1
theorem LM.n {V F : Sto} {b c : Nat} {X : Sto} (h : LM V F b c X) : ∀ n, n < 200 → ¬ F 44 n = 0 → X 24 n = nI (upN (cm F (t4 V F b c) n) 4) := h.2.2.2.1
theorem LM.b {V F : Sto} {b c : Nat} {X : Sto} (h : LM V F b c X) : X 0 33 = nI b := h.2.2.2.2
abbrev CR37 (F : Sto) : Prop := ∀ n, n < 200 → ¬ F 44 n = 0 → F 37 n = -1
theorem moLay_eq {V S F X : Sto} (h : WF V) (hX : MX V F X) (hF : FD V S F) (hS : F 43 = S 43) (hz : CZ F) (h37 : CR37 F) {b c : Nat} (hb : b ≤ 1048576) (hb4 : b % 4 = 0) (hc : c ≤ 32) (h33 : X 0 33 = nI b) (h47 : X 0 47 = nI c) : ∃ Y, f_Mo_lay X = some (0, Y) ∧ Only [0, 24, 27] X Y ∧ (∀ j, j ≠ 34 → j ≠ 35 → j ≠ 49 → Y 0 j = X 0 j) ∧ Y 0 35 = X 0 35 + 1 ∧ LM V F b c Y ∧ MX V F Y ∧ (c = 0 → Y 0 49 = X 0 49) := by
  have hs1 := h.s1
  obtain ⟨b1, b2', b3, b4⟩ := t_bd (F := F) h hb hc
  have e4 : nI (2 ^ 2) = 4 := rfl
  unfold f_Mo_lay
  rw [nm_mk]
  obtain ⟨X1, hX1⟩ : ∃ X1, sw X 0 35 (X 0 35 + 1) = X1 := ⟨_, rfl⟩
  rw [hX1]
  have m1 : MX V F X1 := by rw [← hX1]; exact hX.c0 (by decide)
  have o1 : Only [0, 24, 27] X X1 := by rw [← hX1]; exact Only.refl.sw (by decide)
  have x0 : ∀ j, j ≠ 35 → X1 0 j = X 0 j := fun j hj => by rw [← hX1, sw_at, if_neg hj]
  have x35 : X1 0 35 = X 0 35 + 1 := by rw [← hX1, sw_at, if_pos rfl]
  obtain ⟨X2, p2, o2, s2, u2⟩ := layKind_eq (k := 0) (v := b) h m1 (by omega)
  have m2 : MX V F X2 := m1.only o2 (by decide)
  have z0 : X2 0 = X1 0 := o2 0 (by decide)
  rw [x0 33 (by decide), h33, p2, cl_mk]
  simp only [jn_mk]
  -- the rest, from where data begins
  have rest : ∀ X3 : Sto, Only [0, 24, 27] X X3 → X3 27 = X2 27 → MX V F X3 → (∀ j, j ≠ 34 → j ≠ 35 → j ≠ 49 → X3 0 j = X 0 j) → X3 0 35 = X 0 35 + 1 → (0 < c → X3 0 49 = nI (upN (t1 V F b) 4)) → (c = 0 → X3 0 49 = X 0 49) → ∃ Y, (cl (f_Mo_layKind X3 1 (nI (t2 V F b c))) fun r3 V6 => cl (f_Mo_layKind V6 2 r3) fun r4 V7 => lp_Mo_lay_65 (fun y1 V10 => nm (sw V10 0 34 y1) fun V11 => lp_Mo_lay_119 (fun V13 => some (0, V13)) FU 0 V11) FU r4 0 V7) = some (0, Y) ∧ Only [0, 24, 27] X Y ∧ (∀ j, j ≠ 34 → j ≠ 35 → j ≠ 49 → Y 0 j = X 0 j) ∧ Y 0 35 = X 0 35 + 1 ∧ LM V F b c Y ∧ MX V F Y ∧ (c = 0 → Y 0 49 = X 0 49) := by
    intro X3 o3 e27 m3 j3 l3 i3 k3
    obtain ⟨X4, p4, o4, s4, u4⟩ := layKind_eq (k := 1) (v := t2 V F b c) h m3 (by omega)
    have m4 : MX V F X4 := m3.only o4 (by decide)
    obtain ⟨X5, p5, o5, s5, u5⟩ := layKind_eq (k := 2) (v := t3 V F b c) h m4 (by omega)
    have m5 : MX V F X5 := m4.only o5 (by decide)
    have o5' : Only [0, 24, 27] X X5 := (o3.trans (o4.mono (by decide))).trans (o5.mono (by decide))
    have p4' : f_Mo_layKind X3 1 (nI (t2 V F b c)) = some (nI (t3 V F b c), X4) := p4
    have p5' : f_Mo_layKind X4 2 (nI (t3 V F b c)) = some (nI (t4 V F b c), X5) := p5
    rw [p4', cl_mk, p5', cl_mk]
    have x5z : X5 0 = X3 0 := by rw [o5 0 (by decide), o4 0 (by decide)]
    -- a standing section's place, after the three kinds
    have std : ∀ s, s < (V 2 0).toNatClampNeg → stg F s = true → X5 27 s = nI (adF V F b c s) := by
      intro s hs hst
      have hl : F 46 s = nI s := by
        unfold stg at hst
        rw [Bool.and_eq_true, decide_eq_true_eq] at hst
        exact hst.2
      have ld : ldr F s = s := by unfold ldr; rw [hl, cI (by omega)]
      unfold adF beg
      rw [ld]
      rcases ib3c (h.sk s hs) with k | k | k
      · rw [u5 s (fun z => by rw [k] at z; exact absurd z.2 (by decide)), u4 s (fun z => by rw [k] at z; exact absurd z.2 (by decide)), e27, s2 s hs hst k, k, if_pos rfl]
      · rw [u5 s (fun z => by rw [k] at z; exact absurd z.2 (by decide)), s4 s hs hst k, k, if_neg (by decide), if_pos rfl]
      · rw [s5 s hs hst k, k, if_neg (by decide), if_neg (by decide)]
    have l2 : ∀ T : Sto, Only [24] X5 T → (∀ n, n < 200 → ¬ F 44 n = 0 → T 24 n = nI (upN (cm F (t4 V F b c) n) 4)) → ∃ Y, (nm (sw T 0 34 (nI (cm F (t4 V F b c) 200))) fun V11 => lp_Mo_lay_119 (fun V13 => some (0, V13)) FU 0 V11) = some (0, Y) ∧ Only [0, 24, 27] X Y ∧ (∀ j, j ≠ 34 → j ≠ 35 → j ≠ 49 → Y 0 j = X 0 j) ∧ Y 0 35 = X 0 35 + 1 ∧ LM V F b c Y ∧ MX V F Y ∧ (c = 0 → Y 0 49 = X 0 49) := by
      intro T hT hcm
      rw [nm_mk]
      obtain ⟨T1, hT1⟩ : ∃ T1, sw T 0 34 (nI (cm F (t4 V F b c) 200)) = T1 := ⟨_, rfl⟩
      rw [hT1]
      have mT : MX V F T1 := by rw [← hT1]; exact (m5.only hT (by decide)).c0 (by decide)
      have oT : Only [0, 24, 27] X T1 := by rw [← hT1]; exact (o5'.trans (hT.mono (by decide))).sw (by decide)
      have t0 : ∀ j, j ≠ 34 → T1 0 j = X3 0 j := fun j hj => by rw [← hT1, sw_at, if_neg hj, hT 0 (by decide), x5z]
      have t34 : T1 0 34 = nI (cm F (t4 V F b c) 200) := by rw [← hT1, sw_at, if_pos rfl]
      have t27 : T1 27 = X5 27 := by rw [← hT1, sw_ne (by decide), hT 27 (by decide)]
      have t24 : T1 24 = T 24 := by rw [← hT1, sw_ne (by decide)]
      refine forK (L := lp_Mo_lay_119 (fun V13 => some (0, V13))) (N := (V 2 0).toNatClampNeg) (Inv := fun i Y => Only [27] T1 Y ∧ (∀ s, s < (V 2 0).toNatClampNeg → stg F s = true → Y 27 s = nI (adF V F b c s)) ∧ ∀ s, s < i → ¬ F 43 s = 0 → Y 27 s = nI (adF V F b c s)) (Q := fun r => ∃ Y, r = some (0, Y) ∧ Only [0, 24, 27] X Y ∧ (∀ j, j ≠ 34 → j ≠ 35 → j ≠ 49 → Y 0 j = X 0 j) ∧ Y 0 35 = X 0 35 + 1 ∧ LM V F b c Y ∧ MX V F Y ∧ (c = 0 → Y 0 49 = X 0 49)) (by omega) ?_ ?_ 0 T1 (Nat.zero_le _) ⟨Only.refl, fun s hs hst => by rw [t27]; exact std s hs hst, fun s hs => absurd hs (Nat.not_lt_zero _)⟩
      · rintro n i Y hi ⟨y1, y2, y3⟩ ih
        have hY : MX V F Y := mT.only y1 (by decide)
        have hn := hF.n i hi
        have hle := hF.le i hi
        have hld := hF.ld i hi
        have il : ib (F 46 i) 96 = true := by rw [hn]; exact ib_nI (by omega) (by decide)
        rw [lp_Mo_lay_119, hY.m.r.s0, if_neg (fun z => by have := (le_cnt h.s0 (by omega)).mp z; omega), ib_nI (show i < 96 by omega) (by decide), cI (by omega), hY.l i hi, il, nI1]
        simp only [ck_mk, nm_mk]
        have val : ¬ F 43 i = 0 → Y 27 ((F 46 i).toNatClampNeg) = nI (adF V F b c i) := by
          intro hr
          have hl43 : ¬ F 43 ((F 46 i).toNatClampNeg) = 0 := by
            rcases hF.b ((F 46 i).toNatClampNeg) i (by omega) hi hld with e | ⟨-, g2, -, -⟩
            · rw [e]; exact hr
            · rw [hS]; exact (mf_text g2).2.2.1
          have hsl : stg F ((F 46 i).toNatClampNeg) = true := by
            unfold stg
            rw [decide_eq_false hl43, hld, decide_eq_true hn]
            rfl
          rw [y2 _ (by omega) hsl]
          unfold adF ldr
          rw [hld]
        refine ih _ ⟨y1.sw (by decide), fun s hs hst => ?_, fun s hs hr => ?_⟩
        · rw [sw_at]
          by_cases e : s = i
          · subst e
            rw [if_pos rfl]
            refine val (fun z => ?_)
            unfold stg at hst
            rw [decide_eq_true z, Bool.not_true, Bool.false_and] at hst
            cases hst
          · rw [if_neg e]; exact y2 s hs hst
        · rw [sw_at]
          by_cases e : s = i
          · subst e; rw [if_pos rfl]; exact val hr
          · rw [if_neg e]; exact y3 s (by omega) hr
      · rintro n Y ⟨y1, y2, y3⟩
        have hY : MX V F Y := mT.only y1 (by decide)
        rw [lp_Mo_lay_119, hY.m.r.s0, if_pos ((le_cnt h.s0 (by omega)).mpr (Nat.le_refl _))]
        have y0 : Y 0 = T1 0 := y1 0 (by decide)
        refine ⟨Y, rfl, oT.trans (y1.mono (by decide)), fun j a1 a2 a3 => ?_, ?_, ⟨?_, fun z => ?_, y3, fun n hn hr => ?_, ?_⟩, hY, fun z => ?_⟩
        · rw [y0, t0 j a1]; exact j3 j a1 a2 a3
        · rw [y0, t0 35 (by decide)]; exact l3
        · rw [y0]; exact t34
        · rw [y0, t0 49 (by decide)]; exact i3 z
        · rw [y1 24 (by decide), t24]; exact hcm n hn hr
        · rw [y0, t0 33 (by decide), j3 33 (by decide) (by decide) (by decide)]; exact h33
        · rw [y0, t0 49 (by decide)]; exact k3 z
    obtain ⟨K, hK⟩ : ∃ K : Int32 → Sto → RT, (fun y1 V10 => nm (sw V10 0 34 y1) fun V11 => lp_Mo_lay_119 (fun V13 => some (0, V13)) FU 0 V11) = K := ⟨_, rfl⟩
    have l2' : ∀ T : Sto, Only [24] X5 T → (∀ n, n < 200 → ¬ F 44 n = 0 → T 24 n = nI (upN (cm F (t4 V F b c) n) 4)) → ∃ Y, K (nI (cm F (t4 V F b c) 200)) T = some (0, Y) ∧ Only [0, 24, 27] X Y ∧ (∀ j, j ≠ 34 → j ≠ 35 → j ≠ 49 → Y 0 j = X 0 j) ∧ Y 0 35 = X 0 35 + 1 ∧ LM V F b c Y ∧ MX V F Y ∧ (c = 0 → Y 0 49 = X 0 49) := by rw [← hK]; exact l2
    rw [hK]
    have key := forK (σ := Int32 × Sto) (L := fun n i Y => lp_Mo_lay_65 K n Y.1 i Y.2) (N := 200) (Inv := fun i Y => Only [24] X5 Y.2 ∧ Y.1 = nI (cm F (t4 V F b c) i) ∧ ∀ n, n < i → ¬ F 44 n = 0 → Y.2 24 n = nI (upN (cm F (t4 V F b c) n) 4)) (Q := fun r => ∃ Y, r = some (0, Y) ∧ Only [0, 24, 27] X Y ∧ (∀ j, j ≠ 34 → j ≠ 35 → j ≠ 49 → Y 0 j = X 0 j) ∧ Y 0 35 = X 0 35 + 1 ∧ LM V F b c Y ∧ MX V F Y ∧ (c = 0 → Y 0 49 = X 0 49)) (by omega) (by
      rintro n i ⟨x, Y⟩ hi ⟨y1, y2, y3⟩ ih
      simp only at y1 y2 y3
      have hY : MX V F Y := m5.only y1 (by decide)
      have hcl := cm_le hz (t4 V F b c) i (by omega)
      have ec : cm F (t4 V F b c) (i + 1) = if F 44 i = 0 then cm F (t4 V F b c) i else upN (cm F (t4 V F b c) i) 4 + (F 39 i).toNatClampNeg := rfl
      show ∃ Z, lp_Mo_lay_65 K (n + 1) x (nI i) Y = _ ∧ _
      rw [lp_Mo_lay_65, if_neg (show ¬ (200 : Int32) ≤ nI i from nI_ge (b := 200) hi (by decide)), ib_nI hi (by decide), cI (by omega), hY.q.n i hi, nI1]
      simp only [ck_mk, nm_mk]
      by_cases c0 : F 44 i = 0
      · rw [if_pos c0]
        refine ih (x, Y) ⟨y1, by show x = _; rw [ec, if_pos c0]; exact y2, fun n hn hz2 => ?_⟩
        by_cases e : n = i
        · subst e; exact absurd c0 hz2
        · exact y3 n (by omega) hz2
      · rw [if_neg c0]
        have hu := upM_eq (X := Y) (v := cm F (t4 V F b c) i) (e := 2) (by omega) (by omega)
        rw [e4] at hu
        rw [y2, hu, cl_mk, sw_at, if_pos rfl, sw_ne (show (22 : Nat) ≠ 24 by decide), hY.m.n.c i hi, if_pos (h37 i hi c0), (hz i hi).1, nI_add]
        refine ih (nI (upN (cm F (t4 V F b c) i) 4 + (F 39 i).toNatClampNeg), sw Y 24 i (nI (upN (cm F (t4 V F b c) i) 4))) ⟨y1.sw (by decide), ?_, fun n hn hz2 => ?_⟩
        · show nI (upN (cm F (t4 V F b c) i) 4 + (F 39 i).toNatClampNeg) = nI (cm F (t4 V F b c) (i + 1))
          rw [ec, if_neg c0]
        · show sw Y 24 i _ 24 n = _
          rw [sw_at]
          by_cases e : n = i
          · rw [if_pos e, e]
          · rw [if_neg e]; exact y3 n (by omega) hz2) (by
      rintro n ⟨x, Y⟩ ⟨y1, y2, y3⟩
      simp only at y1 y2 y3
      show ∃ Z, lp_Mo_lay_65 K (n + 1) x (nI 200) Y = _ ∧ _
      rw [lp_Mo_lay_65, if_pos (show (200 : Int32) ≤ nI 200 from nI_le (Nat.le_refl _) (by decide)), y2]
      exact l2' Y y1 y3) 0 (nI (t4 V F b c), X5) (Nat.zero_le _) ⟨Only.refl, rfl, fun n hn => absurd hn (Nat.not_lt_zero _)⟩
    exact key
  have e1 : t1 V F b = pk V F 0 b ((V 2 0).toNatClampNeg) := rfl
  have h14 : t1 V F b % 4 = 0 := pk_4 h 0 hb4 ((V 2 0).toNatClampNeg) (Nat.le_refl _)
  have j2 : ∀ j, j ≠ 35 → X2 0 j = X 0 j := fun j hj => by rw [z0, x0 j hj]
  have o2' : Only [0, 24, 27] X X2 := o1.trans (o2.mono (by decide))
  rw [j2 47 (by decide), h47]
  by_cases cc : c = 0
  · subst cc
    rw [if_pos (by decide)]
    have e2 : pk V F 0 b ((V 2 0).toNatClampNeg) = t2 V F b 0 := by
      show t1 V F b = upN (t1 V F b) 4 + 0 * 8
      rw [upN_4' h14]
      omega
    rw [e2]
    exact rest X2 o2' rfl m2 (fun j _ a _ => j2 j a) (by rw [z0]; exact x35) (fun z => absurd z (Nat.not_lt_zero _)) (fun _ => j2 49 (by decide))
  · rw [if_neg (nI_nle (by omega) (by omega))]
    have hu := upM_eq (X := X2) (v := t1 V F b) (e := 2) (by omega) (by omega)
    rw [e4] at hu
    have hu' : f_Mo_up X2 (nI (pk V F 0 b ((V 2 0).toNatClampNeg))) 4 = some (nI (upN (t1 V F b) 4), X2) := hu
    have e8 : (8 : Int32) * nI c = nI (8 * c) := nI_mul 8 c
    rw [hu', cl_mk, nm_mk, sw_at, if_pos rfl, sw_at, if_neg (by decide), j2 47 (by decide), h47, e8, nI_add, Nat.mul_comm 8 c]
    exact rest _ (o2'.sw (by decide)) (sw_ne (by decide)) (m2.c0 (by decide)) (fun j a1 a2 a3 => by rw [sw_at, if_neg a3, j2 j a2]) (by rw [sw_at, if_neg (by decide), z0]; exact x35) (fun _ => by rw [sw_at, if_pos rfl]) (fun z => absurd z cc)
