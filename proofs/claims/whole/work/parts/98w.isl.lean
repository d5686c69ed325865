/-! Islands settled, in both. -/
/-- what the reference's search for islands leaves alone -/
def FM (Y0 Y : Sto) : Prop :=
  (Only [0, 24, 27, 30, 31] Y0 Y) ∧
  (∀ j, j ∉ [34, 35, 47, 49] → Y 0 j = Y0 0 j)
theorem FM.o {Y0 Y : Sto} (h : FM Y0 Y) : Only [0, 24, 27, 30, 31] Y0 Y := h.1
theorem FM.j {Y0 Y : Sto} (h : FM Y0 Y) : ∀ j, j ∉ [34, 35, 47, 49] → Y 0 j = Y0 0 j := h.2
theorem FM.refl {Y : Sto} : FM Y Y := ⟨Only.refl, fun _ _ => rfl⟩
theorem FM.trans {X Y Z : Sto} (h : FM X Y) (g : FM Y Z) : FM X Z := ⟨h.o.trans g.o, fun j hj => by rw [g.j j hj, h.j j hj]⟩
def IQ (V S F : Sto) (b : Nat) (X Y : Sto) (c : Nat) : Prop :=
  (Only LC F X) ∧
  (MX V F Y) ∧
  (IL V F X Y c) ∧
  (LY V F b c X) ∧
  (LM V F b c Y) ∧
  (Y 0 35 = X 9 6) ∧
  (∀ s, s < (V 2 0).toNatClampNeg → F 43 s = 0 → X 48 s = -1) ∧
  (∀ n, n < 200 → F 44 n = 0 → X 49 n = -1)
theorem IQ.x {V S F : Sto} {b : Nat} {X Y : Sto} {c : Nat} (h : IQ V S F b X Y c) : Only LC F X := h.1
theorem IQ.y {V S F : Sto} {b : Nat} {X Y : Sto} {c : Nat} (h : IQ V S F b X Y c) : MX V F Y := h.2.1
theorem IQ.i {V S F : Sto} {b : Nat} {X Y : Sto} {c : Nat} (h : IQ V S F b X Y c) : IL V F X Y c := h.2.2.1
theorem IQ.l {V S F : Sto} {b : Nat} {X Y : Sto} {c : Nat} (h : IQ V S F b X Y c) : LY V F b c X := h.2.2.2.1
theorem IQ.m {V S F : Sto} {b : Nat} {X Y : Sto} {c : Nat} (h : IQ V S F b X Y c) : LM V F b c Y := h.2.2.2.2.1
theorem IQ.t {V S F : Sto} {b : Nat} {X Y : Sto} {c : Nat} (h : IQ V S F b X Y c) : Y 0 35 = X 9 6 := h.2.2.2.2.2.1
theorem IQ.u {V S F : Sto} {b : Nat} {X Y : Sto} {c : Nat} (h : IQ V S F b X Y c) : ∀ s, s < (V 2 0).toNatClampNeg → F 43 s = 0 → X 48 s = -1 := h.2.2.2.2.2.2.1
theorem IQ.v {V S F : Sto} {b : Nat} {X Y : Sto} {c : Nat} (h : IQ V S F b X Y c) : ∀ n, n < 200 → F 44 n = 0 → X 49 n = -1 := h.2.2.2.2.2.2.2
theorem IQ.ad {V S F X Y : Sto} {b c : Nat} (h : IQ V S F b X Y c) : AD V F X Y := ⟨fun s hs hr => by rw [h.m.a s hs hr, h.l.a s hs hr], fun n hn hr => by rw [h.m.n n hn hr, h.l.n n hn hr]⟩
theorem fails_ib {V X : Sto} {r c i : Nat} (hr : r < (V 4 0).toNatClampNeg) (h53 : X 53 r = -1) (hi : i < 2 ^ 31) {Z : Sto} (hZ : ∀ q, Z 53 q = if q = r then nI i else X 53 q) : gcnt V Z = gcnt V X + 1 := by
  unfold gcnt
  refine countP_set List.nodup_range (a := r) (List.mem_range.mpr hr) (by rw [h53]; rfl) (by rw [hZ, if_pos rfl, decide_eq_false (m1_ne i hi)]; rfl) (fun q hq => by rw [hZ, if_neg hq])
theorem raise_eq {V S F X : Sto} (h : WF V) (hC : CT V S F) (hX : Only LC F X) {c : Nat} (hc : c < 32) (xc : X 10 5 = nI c) {r : Nat} (hr : r < (V 4 0).toNatClampNeg) (h3 : ¬ F 43 (sec V r) = 0) : ∃ Z, f_Is_raise X (nI r) = some (0, Z) ∧ Only [10, 50, 51, 52] X Z ∧ Z 10 5 = nI (c + 1) ∧ Z 10 6 = X 10 6 ∧ (∀ i, Z 50 i = if i = c then F 40 (dY V r) else X 50 i) ∧ (∀ i, Z 51 i = if i = c then lm F (dY V r) else X 51 i) ∧ ∀ i, Z 52 i = if i = c then F 42 (dY V r) + V 31 r else X 52 i := by
  have hr1 := h.r1
  have hy1 := h.y1
  have hdX : Dat V X := hC.d.only hX (by decide)
  obtain ⟨y1, -, y3⟩ := dY_lt h hr
  have e40 := hX 40 (by decide)
  have e41 := hX 41 (by decide)
  have e42 := hX 42 (by decide)
  have e46 := hX 46 (by decide)
  obtain ⟨X1, hX1⟩ : ∃ X1, sw X 50 c (X 40 (dY V r)) = X1 := ⟨_, rfl⟩
  have o1 : Only [50] X X1 := by rw [← hX1]; exact Only.refl.sw (by decide)
  have hl := leadOf_eq (V := V) (T := X1) (y := dY V r) (by omega) (fun z => by rw [o1 41 (by decide), e41]; rw [o1 40 (by decide), e40] at z; exact ((hC.w h hr h3).1 z).1)
  have elm : lm X1 (dY V r) = lm F (dY V r) := lm_congr (by rw [o1 40 (by decide), e40]) (by rw [o1 41 (by decide), e41]) (by rw [o1 46 (by decide), e46]) _
  rw [elm] at hl
  unfold f_Is_raise
  rw [ib_nI (show r < 600 by omega) (by decide), ck_mk, cI (show r < 2 ^ 31 by omega), hdX 30 rfl, y3, ib_nI (show dY V r < 400 by omega) (by decide), ck_mk, xc, ib_nI hc (by decide), ck_mk, nm_mk, cI (show c < 2 ^ 31 by omega), cI (show dY V r < 2 ^ 31 by omega), hX1, hl, cl_mk, o1 10 (by decide), xc, ib_nI hc (by decide), ck_mk, nm_mk, cI (show c < 2 ^ 31 by omega), ck_mk, ck_mk, sw_ne (show (10 : Nat) ≠ 51 by decide), o1 10 (by decide), xc, ib_nI hc (by decide), ck_mk, nm_mk, cI (show c < 2 ^ 31 by omega), sw_ne (show (42 : Nat) ≠ 51 by decide), sw_ne (show (31 : Nat) ≠ 51 by decide), o1 42 (by decide), o1 31 (by decide), e42, hdX 31 rfl, nm_mk, sw_ne (show (10 : Nat) ≠ 52 by decide), sw_ne (show (10 : Nat) ≠ 51 by decide), o1 10 (by decide), xc, nI1]
  refine ⟨_, rfl, ?_, by rw [sw_at, if_pos rfl], ?_, fun i => ?_, fun i => ?_, fun i => ?_⟩
  · exact (((o1.mono (by decide)).sw (by decide)).sw (by decide)).sw (by decide)
  · rw [sw_at, if_neg (by decide), sw_ne (by decide), sw_ne (by decide), o1 10 (by decide)]
  · rw [sw_ne (by decide), sw_ne (by decide), sw_ne (by decide), ← hX1, sw_at, e40]
  · rw [sw_ne (by decide), sw_ne (by decide), sw_at, o1 51 (by decide)]
  · rw [sw_ne (by decide), sw_at, sw_ne (by decide), o1 52 (by decide)]
theorem islands_eq {V S F X0 Y0 : Sto} (h : WF V) (hC : CT V S F) {b : Nat} (hb : b ≤ 1048576) (hb4 : b % 4 = 0) (hX0 : Only LC F X0) (h4 : X0 9 4 = nI b) (h6 : X0 9 6 = 0) (h48 : ∀ s, s < 96 → X0 48 s = -1) (h49 : ∀ n, n < 200 → X0 49 n = -1) (hY0 : MX V F Y0) (h33 : Y0 0 33 = nI b) : (∃ X Y, f_Is_settle X0 = some (0, X) ∧ f_Mo_findIslands Y0 = some (0, flM Y 4 (-1) (-1)) ∧ Only LC F X ∧ X 0 = X0 0 ∧ MX V F Y ∧ FM Y0 Y) ∨ ∃ X Y c, f_Is_settle X0 = some (1, X) ∧ f_Mo_findIslands Y0 = some (1, Y) ∧ IQ V S F b X Y c ∧ X 0 = X0 0 ∧ FM Y0 Y ∧ (ord V).find? (strP V F X) = none := by
  have hr1 := h.r1
  have hs1 := h.s1
  have hS : F 43 = S 43 := hC.s 43 (by decide)
  -- the two loops
  have main : ∀ (X Y : Sto) (c : Nat), IQ V S F b X Y c → X 0 = X0 0 → FM Y0 Y → ∀ Q : RT → RT → Prop, (∀ X' Y', Only LC F X' → X' 0 = X0 0 → MX V F Y' → FM Y0 Y' → Q (some (0, X')) (cl (f_Mo_fail Y' 4 (-1) (-1)) fun r8 V21 => ck (bb r8) <| some (r8, V21))) → (∀ X' Y' c', IQ V S F b X' Y' c' → X' 0 = X0 0 → FM Y0 Y' → (ord V).find? (strP V F X') = none → Q (some (1, X')) (some (1, Y'))) → gcnt V X = 0 → Q (lp_Is_settle_31 (fun V8 => some (0, V8)) (fun V9 => some (1, V9)) FU 0 X) (lp_Mo_findIslands_47 (fun V20 => cl (f_Mo_fail V20 4 (-1) (-1)) fun r8 V21 => ck (bb r8) <| some (r8, V21)) (fun V22 => some (1, V22)) FU (fnd V (strP V F X)) Y) := by
    intro X Y c hI hx0 hFM Q q0 q1 hg0
    have key := loop2 (σ := Nat × Sto) (τ := Int32 × Sto) (L := fun n p => lp_Is_settle_31 (fun V8 => some (0, V8)) (fun V9 => some (1, V9)) n (nI p.1) p.2) (K := fun n p => lp_Mo_findIslands_47 (fun V20 => cl (f_Mo_fail V20 4 (-1) (-1)) fun r8 V21 => ck (bb r8) <| some (r8, V21)) (fun V22 => some (1, V22)) n p.1 p.2) (Inv := fun m p q => ∃ c, IQ V S F b p.2 q.2 c ∧ p.2 0 = X0 0 ∧ FM Y0 q.2 ∧ q.1 = fnd V (strP V F p.2) ∧ p.1 = gcnt V p.2 ∧ m + p.1 = (V 4 0).toNatClampNeg) (Q := Q) (by
      rintro n n' m ⟨g, X⟩ ⟨r', Y⟩ ⟨c, hI, hx0, hFM, hr', hg, hm⟩ ih
      simp only at hI hx0 hFM hr' hg hm
      show Q (lp_Is_settle_31 (fun V8 => some (0, V8)) (fun V9 => some (1, V9)) (n + 1) (nI g) X) (lp_Mo_findIslands_47 (fun V20 => cl (f_Mo_fail V20 4 (-1) (-1)) fun r8 V21 => ck (bb r8) <| some (r8, V21)) (fun V22 => some (1, V22)) (n' + 1) r' Y)
      rw [lp_Is_settle_31, if_neg (show ¬ (600 : Int32) < nI g from fun z => by have := (nI_lt_iff (a := 600) (by omega) (by omega)).mp z; omega), firstStranded_eq h hC hI.x, cl_mk, lp_Mo_findIslands_47, hr', nI1]
      cases hf : (ord V).find? (strP V F X) with
      | none =>
        have e : fnd V (strP V F X) = -1 := by unfold fnd; rw [hf]; rfl
        rw [e, if_pos rfl, if_pos rfl]
        exact q1 X Y c hI hx0 hFM hf
      | some r =>
        have e : fnd V (strP V F X) = nI r := by unfold fnd; rw [hf]; rfl
        have hrl := (ord_mem (List.mem_of_find?_eq_some hf)).1
        have hP := List.find?_some hf
        unfold strP goP at hP
        rw [Bool.and_eq_true, Bool.and_eq_true, Bool.and_eq_true, Bool.and_eq_true, decide_eq_true_eq] at hP
        obtain ⟨h53, ⟨-, -, hst⟩, -⟩ := hP
        have h3 := (stg_43 hst).1
        have hcl := hI.i.hc
        rw [e, if_neg (m1_ne r (by omega)), if_neg (m1_ne r (by omega))]
        -- once one more goes
        have next : ∀ (X1 Y1 : Sto) (c1 i : Nat), X1 0 = X0 0 → Only LC F X1 → MX V F Y1 → FM Y0 Y1 → IL V F X1 Y1 c1 → X1 9 = X 9 → X1 48 = X 48 → X1 49 = X 49 → Y1 0 35 = Y 0 35 → (∀ q, X1 53 q = if q = r then nI i else X 53 q) → i < 32 → Q (cl (f_La_lay X1 (X1 10 5)) fun r5 V7 => lp_Is_settle_31 (fun V8 => some (0, V8)) (fun V9 => some (1, V9)) n (nI (g + 1)) V7) (cl (f_Mo_lay Y1) fun r6 V18 => cl (f_Mo_needy V18) fun r7 V19 => lp_Mo_findIslands_47 (fun V20 => cl (f_Mo_fail V20 4 (-1) (-1)) fun r8 V21 => ck (bb r8) <| some (r8, V21)) (fun V22 => some (1, V22)) n' r7 V19) := by
          intro X1 Y1 c1 i a0 a1 a2 a3 a4 a5 a6 a7 a8 a9 a10
          have hd1 : Dat V X1 := hC.d.only a1 (by decide)
          have j33 : Y1 0 33 = nI b := by rw [a3.j 33 (by decide)]; exact h33
          obtain ⟨X2, l1, l2, l3, l4, l5, l6⟩ := lay_eq h hd1 hC.f hS a1 hC.c hb a4.hc (by rw [a5]; exact hI.l.b)
          obtain ⟨Y2, p1, p2, p3, p4, p5, p6, p7⟩ := moLay_eq h a2 hC.f hS hC.c hC.k hb hb4 a4.hc j33 a4.yc
          have x2o : Only LC F X2 := a1.trans (l2.mono (by decide))
          have fm2 : FM Y0 Y2 := a3.trans ⟨p2.mono (by decide), fun j hj => by
            simp at hj
            exact p3 j hj.1 hj.2.1 hj.2.2.2⟩
          have e10 : X2 10 = X1 10 := l2 10 (by decide)
          have e53 : X2 53 = X1 53 := l2 53 (by decide)
          have eg : gcnt V X2 = gcnt V X1 := by unfold gcnt; rw [e53]
          have il2 : IL V F X2 Y2 c1 := by
            refine ⟨a4.hc, by rw [e10]; exact a4.xc, by rw [p3 47 (by decide) (by decide) (by decide)]; exact a4.yc, ?_, ?_, by rw [e10, eg]; exact a4.go⟩
            · rw [p2 30 (by decide), e53]; exact a4.is
            · rw [p2 31 (by decide), l2 50 (by decide), l2 51 (by decide), l2 52 (by decide)]; exact a4.tg
          have iq2 : IQ V S F b X2 Y2 c1 := ⟨x2o, p6, il2, l4, p5, by rw [p4, l3, a8, a5, hI.t], fun s hs hz => by rw [l5 s hs hz, a6]; exact hI.u s hs hz, fun n hn hz => by rw [l6 n hn hz, a7]; exact hI.v n hn hz⟩
          rw [a4.xc, l1, cl_mk, p1, cl_mk, needy_eq h hC x2o p6 iq2.ad (fun q hq => (il2.is q hq).1), cl_mk]
          have hgc : gcnt V X2 = gcnt V X + 1 := by rw [eg]; exact fails_ib (c := c1) hrl h53 (by omega) a9
          have hle : gcnt V X2 ≤ (V 4 0).toNatClampNeg := by
            have := List.countP_le_length (p := fun r => !decide (X2 53 r = -1)) (l := List.range ((V 4 0).toNatClampNeg))
            rw [List.length_range] at this
            exact this
          exact ih (m - 1) (g + 1, X2) (fnd V (strP V F X2), Y2) (by omega) ⟨c1, iq2, by show X2 0 = X0 0; rw [l2 0 (by decide), a0], fm2, rfl, by show g + 1 = gcnt V X2; omega, by show m - 1 + (g + 1) = (V 4 0).toNatClampNeg; omega⟩
        unfold f_Is_send
        rw [findC_eq h hC hI.x hcl hI.i.xc hrl h3, cl_mk]
        refine find54 h hC hI.y hI.i hrl h3 h53 (Q := fun z => Q _ z) (fun Z z1 z2 z3 => ?_)
        have hZ : MX V F Z := hI.y.only z1 (by decide)
        have fmZ : FM Y0 Z := hFM.trans ⟨z1.mono (by decide), fun j _ => by rw [z1 0 (by decide)]⟩
        have z47 : Z 0 47 = nI c := by rw [z1 0 (by decide)]; exact hI.i.yc
        rw [ib_nI (show r < 600 by omega) (by decide), ck_mk, ck_mk, cI (show r < 2 ^ 31 by omega), z3, hI.i.xc]
        cases hfi : fI V F X c r with
        | some i =>
          have hil := fI_lt hfi
          rw [if_neg (show ¬ optI (some i) = -1 from m1_ne i (by omega)), ixC_some]
          rw [if_neg (show ¬ nI i = nI c from fun z => by have := (nI_eq (by omega) (by omega)).mp z; omega), nm_mk, nm_mk, cl_mk, if_neg (show ¬ (1 : Int32) = 0 by decide)]
          obtain ⟨X1, hX1⟩ : ∃ X1, sw (sw X 53 r (nI i)) 10 6 (sw X 53 r (nI i) 10 6 + 1) = X1 := ⟨_, rfl⟩
          rw [hX1]
          have n53 : ∀ q, X1 53 q = if q = r then nI i else X 53 q := fun q => by rw [← hX1, sw_ne (by decide), sw_at]
          have o1 : Only [10, 53] X X1 := by rw [← hX1]; exact (Only.refl.sw (by decide)).sw (by decide)
          have n10 : ∀ j, j ≠ 6 → X1 10 j = X 10 j := fun j hj => by rw [← hX1, sw_at, if_neg hj, sw_ne (by decide)]
          have n106 : X1 10 6 = X 10 6 + 1 := by rw [← hX1, sw_at, if_pos rfl, sw_ne (by decide)]
          refine next X1 Z c i (by rw [o1 0 (by decide)]; exact hx0) (hI.x.trans (o1.mono (by decide))) hZ fmZ ⟨hcl, by rw [n10 5 (by decide)]; exact hI.i.xc, z47, fun q hq => ?_, ?_, ?_⟩ (o1 9 (by decide)) (o1 48 (by decide)) (o1 49 (by decide)) (by rw [z1 0 (by decide)]) n53 (by omega)
          · rw [n53]
            by_cases e2 : q = r
            · subst e2
              rw [if_pos rfl, z3, hfi]
              exact ⟨rfl, Or.inr ⟨i, hil, rfl⟩⟩
            · rw [if_neg e2, z2 q e2]
              exact hI.i.is q hq
          · rw [z1 31 (by decide), o1 50 (by decide), o1 51 (by decide), o1 52 (by decide)]
            exact hI.i.tg
          · rw [n106, hI.i.go, fails_ib (c := c) hrl h53 (show i < 2 ^ 31 by omega) n53, nI1]
        | none =>
          rw [if_pos (show optI none = -1 from rfl)]
          rw [ixC_none, if_pos (show nI c = nI c from rfl), z47]
          by_cases c32 : c = 32
          · subst c32
            rw [if_neg (show ¬ nI 32 < 32 by decide), cl_mk, if_pos rfl, if_pos (show nI 32 = 32 from rfl)]
            exact q0 X Z hI.x hx0 hZ fmZ
          · rw [if_pos (show nI c < 32 from nI_lt (b := 32) (by omega) (by omega)), if_neg (show ¬ nI c = 32 from fun z => c32 ((nI_eq (b := 32) (by omega) (by omega)).mp z))]
            obtain ⟨X1, r1, r2, r3, r4, r5, r6, r7⟩ := raise_eq h hC hI.x (show c < 32 by omega) hI.i.xc hrl h3
            rw [r1, cl_mk, ib_nI (show c < 32 by omega) (by decide), cI (show c < 2 ^ 31 by omega)]
            repeat (first | rw [ck_mk] | rw [nm_mk] | rw [cl_mk])
            rw [if_neg (show ¬ (1 : Int32) = 0 by decide), sw_ne (show (0 : Nat) ≠ 30 by decide), sw_ne (show (0 : Nat) ≠ 31 by decide), z47, nI1]
            obtain ⟨X2, hX2⟩ : ∃ X2, sw (sw X1 53 r (nI c)) 10 6 (sw X1 53 r (nI c) 10 6 + 1) = X2 := ⟨_, rfl⟩
            obtain ⟨Y2, hY2⟩ : ∃ Y2, sw (sw (sw Z 31 c (nI r)) 30 r (nI c)) 0 47 (nI (c + 1)) = Y2 := ⟨_, rfl⟩
            rw [hX2, hY2]
            have n53 : ∀ q, X2 53 q = if q = r then nI c else X 53 q := fun q => by rw [← hX2, sw_ne (by decide), sw_at, r2 53 (by decide)]
            have o2 : Only [10, 50, 51, 52, 53] X X2 := by rw [← hX2]; exact ((r2.mono (by decide)).sw (by decide)).sw (by decide)
            have n105 : X2 10 5 = nI (c + 1) := by rw [← hX2, sw_at, if_neg (by decide), sw_ne (by decide)]; exact r3
            have n106 : X2 10 6 = X 10 6 + 1 := by rw [← hX2, sw_at, if_pos rfl, sw_ne (by decide), r4]
            have n50 : X2 50 = X1 50 := by rw [← hX2, sw_ne (by decide), sw_ne (by decide)]
            have n51 : X2 51 = X1 51 := by rw [← hX2, sw_ne (by decide), sw_ne (by decide)]
            have n52 : X2 52 = X1 52 := by rw [← hX2, sw_ne (by decide), sw_ne (by decide)]
            have mY2 : MX V F Y2 := by
              rw [← hY2]
              exact (hZ.only (L := [30, 31]) ((Only.refl.sw (by decide)).sw (by decide)) (by decide)).c0 (by decide)
            have y0 : ∀ j, j ≠ 47 → Y2 0 j = Z 0 j := fun j hj => by rw [← hY2, sw_at, if_neg hj, sw_ne (by decide), sw_ne (by decide)]
            have fmY2 : FM Y0 Y2 := fmZ.trans ⟨by rw [← hY2]; exact ((Only.refl.sw (by decide)).sw (by decide)).sw (by decide), fun j hj => by
              simp at hj
              exact y0 j hj.2.2.1⟩
            have y30 : ∀ q, Y2 30 q = if q = r then nI c else Z 30 q := fun q => by rw [← hY2, sw_ne (by decide), sw_at, sw_ne (by decide)]
            have y31 : ∀ q, Y2 31 q = if q = c then nI r else Z 31 q := fun q => by rw [← hY2, sw_ne (by decide), sw_ne (by decide), sw_at]
            have y47 : Y2 0 47 = nI (c + 1) := by rw [← hY2, sw_at, if_pos rfl]
            refine next X2 Y2 (c + 1) c (by rw [o2 0 (by decide)]; exact hx0) (hI.x.trans (o2.mono (by decide))) mY2 fmY2 ⟨by omega, n105, y47, fun q hq => ?_, fun i hi => ?_, ?_⟩ (o2 9 (by decide)) (o2 48 (by decide)) (o2 49 (by decide)) (by rw [y0 35 (by decide), z1 0 (by decide)]) n53 (by omega)
            · rw [n53, y30]
              by_cases e2 : q = r
              · rw [if_pos e2, if_pos e2]; exact ⟨rfl, Or.inr ⟨c, by omega, rfl⟩⟩
              · rw [if_neg e2, if_neg e2, z2 q e2]
                obtain ⟨i1, i2⟩ := hI.i.is q hq
                refine ⟨i1, ?_⟩
                rcases i2 with i2 | ⟨i, i3, i4⟩
                · exact Or.inl i2
                · exact Or.inr ⟨i, by omega, i4⟩
            · rw [y31, n50, n51, n52, r5, r6, r7]
              by_cases e2 : i = c
              · rw [if_pos e2, if_pos e2, if_pos e2, if_pos e2]
                exact ⟨r, hrl, rfl, h3, rfl, rfl, rfl⟩
              · rw [if_neg e2, if_neg e2, if_neg e2, if_neg e2, z1 31 (by decide)]
                exact hI.i.tg i (by omega)
            · rw [n106, hI.i.go, fails_ib (c := c) hrl h53 (show c < 2 ^ 31 by omega) n53, nI1]) ((V 4 0).toNatClampNeg) FU FU (0, X) (fnd V (strP V F X), Y) ⟨c, hI, hx0, hFM, rfl, hg0.symm, by omega⟩ (by unfold FU; omega) (by unfold FU; omega)
    exact key
  have begin' : ∀ Q : RT → RT → Prop, (∀ X' Y', Only LC F X' → X' 0 = X0 0 → MX V F Y' → FM Y0 Y' → Q (some (0, X')) (cl (f_Mo_fail Y' 4 (-1) (-1)) fun r8 V21 => ck (bb r8) <| some (r8, V21))) → (∀ X' Y' c', IQ V S F b X' Y' c' → X' 0 = X0 0 → FM Y0 Y' → (ord V).find? (strP V F X') = none → Q (some (1, X')) (some (1, Y'))) → Q (f_Is_settle X0) (f_Mo_findIslands Y0) := by
    intro Q q0 q1
    unfold f_Is_settle f_Mo_findIslands
    obtain ⟨X1, hX1⟩ : ∃ X1, sw (sw X0 10 5 0) 10 6 0 = X1 := ⟨_, rfl⟩
    obtain ⟨Y1, hY1⟩ : ∃ Y1, sw (sw (sw Y0 0 47 0) 0 35 0) 0 49 (-1) = Y1 := ⟨_, rfl⟩
    rw [nm_mk, nm_mk, hX1, nm_mk, nm_mk, nm_mk, hY1]
    obtain ⟨X2, f1, f2, f3⟩ := fill53_eq X1 (-1)
    have o1 : Only [10] X0 X1 := by rw [← hX1]; exact (Only.refl.sw (by decide)).sw (by decide)
    have o2 : Only LC F X2 := (hX0.trans (o1.mono (by decide))).trans (f2.mono (by decide))
    have x105 : X2 10 5 = nI 0 := by rw [f2 10 (by decide), ← hX1, sw_at, if_neg (by decide), sw_at, if_pos rfl]; rfl
    have x106 : X2 10 6 = 0 := by rw [f2 10 (by decide), ← hX1, sw_at, if_pos rfl]
    have x9 : X2 9 = X0 9 := by rw [f2 9 (by decide), o1 9 (by decide)]
    have g0 : gcnt V X2 = 0 := by
      unfold gcnt
      rw [List.countP_eq_zero]
      intro r hr
      rw [f3 r (by have := List.mem_range.mp hr; omega)]
      decide
    have hd2 : Dat V X2 := hC.d.only o2 (by decide)
    obtain ⟨X3, l1, l2, l3, l4, l5, l6⟩ := lay_eq (c := 0) h hd2 hC.f hS o2 hC.c hb (by omega) (by rw [x9]; exact h4)
    rw [f1, cl_mk, x105, l1, cl_mk]
    have m1 : MX V F Y1 := by rw [← hY1]; exact ((hY0.c0 (by decide)).c0 (by decide)).c0 (by decide)
    have y0 : ∀ j, j ∉ [34, 35, 47, 49] → Y1 0 j = Y0 0 j := fun j hj => by
      simp at hj
      rw [← hY1, sw_at, if_neg hj.2.2.2, sw_at, if_neg hj.2.1, sw_at, if_neg hj.2.2.1]
    have fm1 : FM Y0 Y1 := ⟨by rw [← hY1]; exact ((Only.refl.sw (by decide)).sw (by decide)).sw (by decide), y0⟩
    have y47 : Y1 0 47 = nI 0 := by rw [← hY1, sw_at, if_neg (by decide), sw_at, if_neg (by decide), sw_at, if_pos rfl]; rfl
    have y35 : Y1 0 35 = 0 := by rw [← hY1, sw_at, if_neg (by decide), sw_at, if_pos rfl]
    have e10 : X3 10 = X2 10 := l2 10 (by decide)
    have e53 : X3 53 = X2 53 := l2 53 (by decide)
    have x3o : Only LC F X3 := o2.trans (l2.mono (by decide))
    have g3 : gcnt V X3 = 0 := by unfold gcnt; rw [e53]; exact g0
    refine forK (L := lp_Mo_findIslands_17 (fun V5 => cl (f_Mo_lay V5) fun r1 V6 => cl (f_Mo_needy V6) fun r2 V7 => lp_Mo_findIslands_47 (fun V20 => cl (f_Mo_fail V20 4 (-1) (-1)) fun r8 V21 => ck (bb r8) <| some (r8, V21)) (fun V22 => some (1, V22)) FU r2 V7)) (N := (V 4 0).toNatClampNeg) (Inv := fun i Z => Only [30] Y1 Z ∧ ∀ r, r < i → Z 30 r = -1) (Q := fun z => Q _ z) (by omega) ?_ ?_ 0 Y1 (Nat.zero_le _) ⟨Only.refl, fun r hr => absurd hr (Nat.not_lt_zero _)⟩
    · rintro n i Z hi ⟨z1, z2⟩ ih
      have hZ : MX V F Z := m1.only z1 (by decide)
      rw [lp_Mo_findIslands_17, hZ.m.r.r0, if_neg (fun z => by have := (le_cnt h.r0 (by omega)).mp z; omega), ib_nI (show i < 600 by omega) (by decide), ck_mk, nm_mk, cI (by omega), nI1]
      refine ih _ ⟨z1.sw (by decide), fun r hr => ?_⟩
      rw [sw_at]
      by_cases e : r = i
      · rw [if_pos e]
      · rw [if_neg e]; exact z2 r (by omega)
    · rintro n Z ⟨z1, z2⟩
      have hZ : MX V F Z := m1.only z1 (by decide)
      rw [lp_Mo_findIslands_17, hZ.m.r.r0, if_pos ((le_cnt h.r0 (by omega)).mpr (Nat.le_refl _))]
      have z0 : Z 0 = Y1 0 := z1 0 (by decide)
      obtain ⟨Y2, p1, p2, p3, p4, p5, p6, p7⟩ := moLay_eq (c := 0) h hZ hC.f hS hC.c hC.k hb hb4 (by omega) (by rw [z0, y0 33 (by decide)]; exact h33) (by rw [z0]; exact y47)
      have fm2 : FM Y0 Y2 := (fm1.trans ⟨z1.mono (by decide), fun j _ => by rw [z0]⟩).trans ⟨p2.mono (by decide), fun j hj => by
        simp at hj
        exact p3 j hj.1 hj.2.1 hj.2.2.2⟩
      have il : IL V F X3 Y2 0 := by
        refine ⟨by omega, by rw [e10]; exact x105, by rw [p3 47 (by decide) (by decide) (by decide), z0]; exact y47, fun r hr => ?_, fun i hi => absurd hi (Nat.not_lt_zero _), by rw [e10, x106, g3]; rfl⟩
        rw [p2 30 (by decide), e53, f3 r (by omega)]
        exact ⟨z2 r hr, Or.inl rfl⟩
      have iq : IQ V S F b X3 Y2 0 := ⟨x3o, p6, il, l4, p5, by rw [p4, l3, z0, y35, x9, h6], fun s hs hz => by rw [l5 s hs hz, f2 48 (by decide), o1 48 (by decide)]; exact h48 s (by omega), fun n hn hz => by rw [l6 n hn hz, f2 49 (by decide), o1 49 (by decide)]; exact h49 n hn⟩
      rw [p1, cl_mk, needy_eq h hC x3o p6 iq.ad (fun q hq => (il.is q hq).1), cl_mk]
      exact main X3 Y2 0 iq (by rw [l2 0 (by decide), f2 0 (by decide), o1 0 (by decide)]) fm2 Q q0 q1 g3
  refine begin' (fun x y => (∃ X Y, x = some (0, X) ∧ y = some (0, flM Y 4 (-1) (-1)) ∧ Only LC F X ∧ X 0 = X0 0 ∧ MX V F Y ∧ FM Y0 Y) ∨ ∃ X Y c, x = some (1, X) ∧ y = some (1, Y) ∧ IQ V S F b X Y c ∧ X 0 = X0 0 ∧ FM Y0 Y ∧ (ord V).find? (strP V F X) = none) (fun X' Y' a1 a0 a2 a3 => ?_) (fun X' Y' c' a1 a0 a2 a3 => ?_)
  · refine Or.inl ⟨X', Y', rfl, ?_, a1, a0, a2, a3⟩
    rw [fail_eq, cl_mk]
    rfl
  · exact Or.inr ⟨X', Y', c', rfl, rfl, a1, a0, a2, a3⟩
