/-! The reference's likeness ends as the class's. -/
theorem NQ.mr {V S M : Sto} (h : WF V) (hQ : NQ V S M) : MR V S := by
  intro r hr h43
  have hs1 := h.s1
  obtain ⟨yl, yu, -⟩ := dY_lt h hr
  have hF : MFs V (inS V) S := fun y hy hA => (mean_eq h hQ.n hQ.m.n hQ.m.r hy hA).2
  have sl := (sec_lt h hr).1
  rcases hQ.r.r (sec V r) (by omega) with ⟨-, e⟩ | ⟨e, -⟩
  · exact hF _ yl (by rw [yu]; exact (e.inn h hQ.n.n hF).2)
  · exact absurd e h43
theorem NQ.inn {V S M : Sto} (h : WF V) (hQ : NQ V S M) {s : Nat} (hs : s < (V 2 0).toNatClampNeg) (h43 : ¬ S 43 s = 0) : inS V ((V 15 s).toNatClampNeg) = true := by
  have hs1 := h.s1
  have hF : MFs V (inS V) S := fun y hy hA => (mean_eq h hQ.n hQ.m.n hQ.m.r hy hA).2
  rcases hQ.r.r s (by omega) with ⟨-, e⟩ | ⟨e, -⟩
  · exact (e.inn h hQ.n.n hF).2
  · exact absurd e h43
def RT' (V T : Sto) (a b : Nat) : Prop := a ≠ b ∧ a < (V 2 0).toNatClampNeg ∧ b < (V 2 0).toNatClampNeg ∧ T 46 a = T 46 b
def a0 (V S : Sto) (s t : Nat) : Bool := !decide (V 0 12 = 0) && (!decide (s = t) && (mf V S s && (mf V S t && wl V s t)))
theorem a0_iff {V S : Sto} {s t : Nat} : a0 V S s t = true ↔ ¬ V 0 12 = 0 ∧ s ≠ t ∧ mf V S s = true ∧ mf V S t = true ∧ wl V s t = true := by simp [a0]
theorem wl_iff {V : Sto} {s t : Nat} : wl V s t = true ↔ V 17 s = V 17 t ∧ V 18 s = V 18 t ∧ ∀ k, k < (V 17 s).toNatClampNeg / 4 → wdv V s k = wdv V t k := by
  unfold wl sW
  rw [Bool.and_eq_true, Bool.and_eq_true, all_range]
  simp only [decide_eq_true_eq]
theorem R_a0 {V S T : Sto} (hF : FD V S T) {a b : Nat} (hR : RT' V T a b) : a0 V S a b = true := by
  obtain ⟨h1, h2, h3, h4⟩ := hR
  obtain ⟨e1, e2, e3, e4⟩ := (hF.b a b h2 h3 h4).resolve_left h1
  obtain ⟨l1, l2, l3, -⟩ := look_iff.mp e4
  exact a0_iff.mpr ⟨e1, h1, e2, e3, wl_iff.mpr ⟨l1, l2, l3⟩⟩
theorem R_hl {V S T : Sto} (h : WF V) (hm : MR V S) (h40 : T 40 = S 40) (h41 : T 41 = S 41) (hF : FD V S T) {A : Nat → Nat → Bool} (hA : ∀ a b, RT' V T a b → A a b = true) {s t : Nat} (hR : RT' V T s t) : hl V S A s t = true := by
  obtain ⟨h1, h2, h3, h4⟩ := hR
  obtain ⟨e1, e2, e3, e4⟩ := (hF.b s t h2 h3 h4).resolve_left h1
  obtain ⟨l1, l2, l3, l4, l5⟩ := look_iff.mp e4
  have hT := sT_iff.mp (hF.t s t h2 h3 h4)
  unfold hl
  rw [decide_eq_true l4, Bool.true_and, all_range]
  intro k hk
  obtain ⟨r1, r2⟩ := rl_lt hk
  obtain ⟨q1, q2⟩ := rl_lt (s := t) (k := k) (V := V) (by omega)
  have s3 : ¬ S 43 (sec V (rl V s k)) = 0 := by rw [r2]; exact (mf_text e2).2.2.1
  have t3 : ¬ S 43 (sec V (rl V t k)) = 0 := by rw [q2]; exact (mf_text e3).2.2.1
  obtain ⟨p1, p2, p3, p4, p5⟩ := sR_iff.mp (l5 k hk)
  have hlm := hT k hk
  unfold lm at hlm
  rw [h40, h41, ← p4] at hlm
  unfold rL mL
  rw [decide_eq_true p1, decide_eq_true p2, decide_eq_true p3, decide_eq_true p4, Bool.true_and, Bool.true_and, Bool.true_and, Bool.true_and]
  by_cases c3 : S 40 (dY V (rl V s k)) = 3
  · rw [if_pos c3]
    rw [if_neg (by rw [c3]; decide), if_neg (by rw [c3]; decide)] at hlm
    have w1 : S 41 (dY V (rl V s k)) = V 22 (dY V (rl V s k)) := by
      rcases hm _ r1 s3 with ⟨f, -⟩ | ⟨f, -⟩ | ⟨f, -⟩ | ⟨-, f, -⟩
      · rw [c3] at f; exact absurd f (by decide)
      · rw [c3] at f; exact absurd f (by decide)
      · rw [c3] at f; exact absurd f (by decide)
      · exact f
    have w2 : S 41 (dY V (rl V t k)) = V 22 (dY V (rl V t k)) := by
      rw [p4] at c3
      rcases hm _ q1 t3 with ⟨f, -⟩ | ⟨f, -⟩ | ⟨f, -⟩ | ⟨-, f, -⟩
      · rw [c3] at f; exact absurd f (by decide)
      · rw [c3] at f; exact absurd f (by decide)
      · rw [c3] at f; exact absurd f (by decide)
      · exact f
    exact decide_eq_true (by rw [← w1, ← w2]; exact hlm)
  · rw [if_neg c3, decide_eq_true p5, Bool.true_and]
    by_cases c1 : S 40 (dY V (rl V s k)) = 1
    · rw [decide_eq_true c1, Bool.not_true, Bool.false_or]
      rw [if_pos c1, if_pos c1] at hlm
      by_cases c : S 41 (dY V (rl V s k)) = S 41 (dY V (rl V t k))
      · rw [decide_eq_true c, Bool.true_or]
      · rw [decide_eq_false c, Bool.false_or]
        have z1 := hm.w h r1 s3 c1
        have z2 := hm.w h q1 t3 (by rw [← p4]; exact c1)
        exact hA _ _ ⟨fun e => c (ib_inj z1.1 z2.1 e), z1.2, z2.2, hlm⟩
    · rw [decide_eq_false c1, Bool.not_false, Bool.true_or]
theorem A_R {V S T : Sto} (h : WF V) (hm : MR V S) (hF : FD V S T) {A : Nat → Nat → Bool} (h0 : ∀ a b, a < (V 2 0).toNatClampNeg → b < (V 2 0).toNatClampNeg → A a b = true → a0 V S a b = true) (h1 : ∀ a b, a < (V 2 0).toNatClampNeg → b < (V 2 0).toNatClampNeg → A a b = true → hl V S A a b = true) {s t : Nat} (hs : s < (V 2 0).toNatClampNeg) (ht : t < (V 2 0).toNatClampNeg) (hA : A s t = true) : T 46 s = T 46 t := by
  refine hF.p (fun a b => a < (V 2 0).toNatClampNeg ∧ b < (V 2 0).toNatClampNeg ∧ A a b = true) ?_ s t ⟨hs, ht, hA⟩
  rintro a b ⟨ha, hb, hab⟩
  obtain ⟨x1, x2, x3, x4, x5⟩ := a0_iff.mp (h0 a b ha hb hab)
  obtain ⟨w1, w2, w3⟩ := wl_iff.mp x5
  have hh := h1 a b ha hb hab
  unfold hl at hh
  rw [Bool.and_eq_true, all_range, decide_eq_true_eq] at hh
  obtain ⟨hln, hall⟩ := hh
  have each : ∀ k, k < ln V a → sR V S (rl V a k) (rl V b k) = true ∧ (S 40 (dY V (rl V a k)) = 1 → S 41 (dY V (rl V a k)) = S 41 (dY V (rl V b k)) ∨ A ((S 41 (dY V (rl V a k))).toNatClampNeg) ((S 41 (dY V (rl V b k))).toNatClampNeg) = true) ∧ (S 40 (dY V (rl V a k)) = 3 → S 41 (dY V (rl V a k)) = S 41 (dY V (rl V b k))) := by
    intro k hk
    obtain ⟨r1, r2⟩ := rl_lt hk
    obtain ⟨q1, q2⟩ := rl_lt (s := b) (k := k) (V := V) (by omega)
    have s3 : ¬ S 43 (sec V (rl V a k)) = 0 := by rw [r2]; exact (mf_text x3).2.2.1
    have t3 : ¬ S 43 (sec V (rl V b k)) = 0 := by rw [q2]; exact (mf_text x4).2.2.1
    have hr := hall k hk
    unfold rL mL at hr
    rw [Bool.and_eq_true, Bool.and_eq_true, Bool.and_eq_true, Bool.and_eq_true, decide_eq_true_eq, decide_eq_true_eq, decide_eq_true_eq, decide_eq_true_eq] at hr
    obtain ⟨p1, p2, p3, p4, p5⟩ := hr
    by_cases c3 : S 40 (dY V (rl V a k)) = 3
    · rw [if_pos c3, decide_eq_true_eq] at p5
      have c3' : S 40 (dY V (rl V b k)) = 3 := by rw [← p4]; exact c3
      have w1 : S 41 (dY V (rl V a k)) = V 22 (dY V (rl V a k)) ∧ S 42 (dY V (rl V a k)) = 0 := by
        rcases hm _ r1 s3 with ⟨f, -⟩ | ⟨f, -⟩ | ⟨f, -⟩ | ⟨-, f, g, -⟩
        · rw [c3] at f; exact absurd f (by decide)
        · rw [c3] at f; exact absurd f (by decide)
        · rw [c3] at f; exact absurd f (by decide)
        · exact ⟨f, g⟩
      have w2 : S 41 (dY V (rl V b k)) = V 22 (dY V (rl V b k)) ∧ S 42 (dY V (rl V b k)) = 0 := by
        rcases hm _ q1 t3 with ⟨f, -⟩ | ⟨f, -⟩ | ⟨f, -⟩ | ⟨-, f, g, -⟩
        · rw [c3'] at f; exact absurd f (by decide)
        · rw [c3'] at f; exact absurd f (by decide)
        · rw [c3'] at f; exact absurd f (by decide)
        · exact ⟨f, g⟩
      exact ⟨sR_iff.mpr ⟨p1, p2, p3, p4, by rw [w1.2, w2.2]⟩, fun z => by rw [c3] at z; exact absurd z (by decide), fun _ => by rw [w1.1, w2.1, p5]⟩
    · rw [if_neg c3, Bool.and_eq_true, decide_eq_true_eq] at p5
      refine ⟨sR_iff.mpr ⟨p1, p2, p3, p4, p5.1⟩, fun z => ?_, fun z => absurd z c3⟩
      have p6 := p5.2
      rw [decide_eq_true z, Bool.not_true, Bool.false_or, Bool.or_eq_true, decide_eq_true_eq] at p6
      exact p6
  refine ⟨ha, hb, x1, x3, x4, look_iff.mpr ⟨w1, w2, w3, hln, fun k hk => (each k hk).1⟩, fun k hk => ⟨fun z => ?_, (each k hk).2.2⟩⟩
  rcases (each k hk).2.1 z with e | e
  · exact Or.inl e
  · obtain ⟨r1, r2⟩ := rl_lt hk
    obtain ⟨q1, q2⟩ := rl_lt (s := b) (k := k) (V := V) (by omega)
    have c4 := (sR_iff.mp (each k hk).1).2.2.2.1
    exact Or.inr ⟨(hm.w h r1 (by rw [r2]; exact (mf_text x3).2.2.1) z).2, (hm.w h q1 (by rw [q2]; exact (mf_text x4).2.2.1) (by rw [← c4]; exact z)).2, e⟩
/-- how many pairs are still alike -/
def nA (A : Nat → Nat → Bool) : Nat := (List.range 9216).countP (fun p => A (p / 96) (p % 96))
theorem like98 {V S N T X : Sto} (h : WF V) (hQ : NQ V S N) (h40 : T 40 = S 40) (h41 : T 41 = S 41) (hF : FD V S T) (hX : Only [28] N X) {A : Nat → Nat → Bool} (hA : AL V A X) (hA0 : ∀ a b, a < (V 2 0).toNatClampNeg → b < (V 2 0).toNatClampNeg → A a b = true → a0 V S a b = true) (hR : ∀ a b, RT' V T a b → A a b = true) {k : Int32 → Sto → RT} {Q : RT → Prop} (hk : ∀ (c : Bool) (A' : Nat → Nat → Bool) (Y : Sto), Only [28] N Y → AL V A' Y → (∀ a b, a < (V 2 0).toNatClampNeg → b < (V 2 0).toNatClampNeg → A' a b = true → a0 V S a b = true) → (∀ a b, RT' V T a b → A' a b = true) → (c = true → nA A' < nA A) → (c = false → ∀ a b, a < (V 2 0).toNatClampNeg → b < (V 2 0).toNatClampNeg → A' a b = true → hl V S A' a b = true) → Q (k (b2 c) Y)) : Q (lp_Mo_findLike_98 k FU 0 0 X) := by
  have hs1 := h.s1
  have hm := hQ.mr h
  have key := forK (σ := Int32 × Sto) (L := fun n i Y => lp_Mo_findLike_98 k n Y.1 i Y.2) (N := 96 * (V 2 0).toNatClampNeg) (Inv := fun p Y => Only [28] N Y.2 ∧ ∃ (c : Bool) (A' : Nat → Nat → Bool), Y.1 = b2 c ∧ AL V A' Y.2 ∧ (∀ a b, a < (V 2 0).toNatClampNeg → b < (V 2 0).toNatClampNeg → A' a b = true → a0 V S a b = true) ∧ (∀ a b, RT' V T a b → A' a b = true) ∧ (∀ a b, A' a b = true → A a b = true) ∧ (c = true → nA A' < nA A) ∧ (c = false → A' = A ∧ ∀ a b, a < (V 2 0).toNatClampNeg → b < (V 2 0).toNatClampNeg → 96 * a + b < p → A a b = true → hl V S A a b = true)) (Q := Q) (by omega) (by
    rintro n p ⟨x, Y⟩ hp ⟨y0, c, A', y1, y2, y3, y4, y5, y6, y7⟩ ih
    simp only at y0 y1 y2
    have hMY : MB V (inS V) S Y := hQ.m.only y0 (by decide)
    have hp2 : p / 96 < (V 2 0).toNatClampNeg := Nat.div_lt_of_lt_mul hp
    have hp3 : p % 96 < 96 := Nat.mod_lt _ (by decide)
    have hp4 : 96 * (p / 96) + p % 96 = p := Nat.div_add_mod p 96
    show Q (lp_Mo_findLike_98 k (n + 1) x (nI p) Y)
    have e96 : (96 : Int32) * V 2 0 = nI (96 * (V 2 0).toNatClampNeg) := by
      have := nI_mul 96 ((V 2 0).toNatClampNeg)
      rw [← h.s0] at this
      exact this
    have ediv : nI p / 96 = nI (p / 96) := nI_div (b := 96) (by omega) (by omega) (by omega)
    have emod : nI p - nI p / 96 * 96 = nI (p % 96) := nI_mod (b := 96) (by omega) (by omega) (by omega)
    rw [lp_Mo_findLike_98, hMY.r.s0, e96, if_neg (nI_ge hp (by omega)), emod, ediv, ib_nI (show p < 9216 by omega) (by decide), cI (by omega), nI1]
    simp only [ck_mk, nm_mk]
    have stay : (p % 96 < (V 2 0).toNatClampNeg → A' (p / 96) (p % 96) = true → hl V S A' (p / 96) (p % 96) = true) → Q (lp_Mo_findLike_98 k n x (nI (p + 1)) Y) := by
      intro hh
      refine ih (x, Y) ⟨y0, c, A', y1, y2, y3, y4, y5, y6, fun z => ⟨(y7 z).1, fun a b ha hb hab hA1 => ?_⟩⟩
      obtain ⟨z1, z2⟩ := y7 z
      by_cases e : 96 * a + b < p
      · exact z2 a b ha hb e hA1
      · have ea : a = p / 96 := by omega
        have eb : b = p % 96 := by omega
        subst ea eb
        rw [z1] at hh
        exact hh hb hA1
    by_cases c1 : V 2 0 ≤ nI (p % 96)
    · rw [if_pos c1]
      have := (le_cnt h.s0 (by omega)).mp c1
      exact stay (fun z => by omega)
    · rw [if_neg c1]
      have hb : p % 96 < (V 2 0).toNatClampNeg := by
        rcases Nat.lt_or_ge (p % 96) ((V 2 0).toNatClampNeg) with z | z
        · exact z
        · exact absurd ((le_cnt h.s0 (by omega)).mpr z) c1
      have e28 := y2 (p / 96) (p % 96) hp2 hb
      rw [hp4] at e28
      rw [e28]
      cases hAp : A' (p / 96) (p % 96) with
      | false =>
        rw [if_pos b2f]
        exact stay (fun _ z => by rw [hAp] at z; cases z)
      | true =>
        rw [if_neg b2t]
        obtain ⟨g1, g2, g3, g4, -⟩ := a0_iff.mp (y3 _ _ hp2 hb hAp)
        rw [haveRel_eq h hQ.n hMY y2 hp2 hb (hQ.inn h hp2 (mf_text g3).2.2.1) (hQ.inn h hb (mf_text g4).2.2.1), cl_mk]
        cases hh : hl V S A' (p / 96) (p % 96) with
        | true =>
          rw [if_neg b2t]
          exact stay (fun _ _ => hh)
        | false =>
          rw [if_pos b2f]
          have drop : ∀ a b, (a = p / 96 ∧ b = p % 96) ∨ ¬ (a = p / 96 ∧ b = p % 96) := fun a b => Classical.em _
          refine ih (1, _) ⟨y0.sw (by decide), true, fun a b => A' a b && !(decide (a = p / 96) && decide (b = p % 96)), rfl, fun a b ha hb2 => ?_, fun a b ha hb2 hz => ?_, fun a b hab => ?_, fun a b hz => ?_, fun _ => ?_, fun z => (nomatch z)⟩
          · show sw Y 28 p 0 28 (96 * a + b) = b2 (A' a b && !(decide (a = p / 96) && decide (b = p % 96)))
            rw [sw_at]
            by_cases e : 96 * a + b = p
            · have ea : a = p / 96 := by omega
              have eb : b = p % 96 := by omega
              rw [if_pos e, decide_eq_true ea, decide_eq_true eb, Bool.and_true, Bool.not_true, Bool.and_false]
              rfl
            · rw [if_neg e, y2 a b ha hb2]
              have : (decide (a = p / 96) && decide (b = p % 96)) = false := by
                cases hd : (decide (a = p / 96) && decide (b = p % 96)) with
                | false => rfl
                | true =>
                  rw [Bool.and_eq_true, decide_eq_true_eq, decide_eq_true_eq] at hd
                  exact absurd (by rw [hd.1, hd.2]; exact hp4) e
              rw [this, Bool.not_false, Bool.and_true]
          · rw [Bool.and_eq_true] at hz
            exact y3 a b ha hb2 hz.1
          · show (A' a b && !(decide (a = p / 96) && decide (b = p % 96))) = true
            rw [y4 a b hab, Bool.true_and]
            cases hd : (decide (a = p / 96) && decide (b = p % 96)) with
            | false => rfl
            | true =>
              rw [Bool.and_eq_true, decide_eq_true_eq, decide_eq_true_eq] at hd
              rw [hd.1, hd.2] at hab
              have := R_hl h hm h40 h41 hF y4 hab
              rw [hh] at this
              cases this
          · rw [Bool.and_eq_true] at hz
            exact y5 a b hz.1
          · have hlt : nA (fun a b => A' a b && !(decide (a = p / 96) && decide (b = p % 96))) < nA A' := by
              unfold nA
              refine countP_lt (a := p) (fun q _ hq => ?_) (List.mem_range.mpr (by omega)) hAp (by simp)
              simp only [Bool.and_eq_true] at hq
              exact hq.1
            cases c with
            | true => have := y6 rfl; omega
            | false => rw [(y7 rfl).1] at hlt ⊢; exact hlt) (by
    rintro n ⟨x, Y⟩ ⟨y0, c, A', y1, y2, y3, y4, y5, y6, y7⟩
    simp only at y0 y1 y2
    have hMY : MB V (inS V) S Y := hQ.m.only y0 (by decide)
    show Q (lp_Mo_findLike_98 k (n + 1) x (nI (96 * (V 2 0).toNatClampNeg)) Y)
    have e96 : (96 : Int32) * V 2 0 = nI (96 * (V 2 0).toNatClampNeg) := by
      have := nI_mul 96 ((V 2 0).toNatClampNeg)
      rw [← h.s0] at this
      exact this
    rw [lp_Mo_findLike_98, hMY.r.s0, e96, if_pos (nI_le (Nat.le_refl _) (by omega)), y1]
    refine hk c A' Y y0 y2 y3 y4 y6 (fun z a b ha hb hab => ?_)
    obtain ⟨z1, z2⟩ := y7 z
    rw [z1] at hab ⊢
    exact z2 a b ha hb (by omega) hab) 0 (0, X) (Nat.zero_le _) ⟨hX, false, A, rfl, hA, hA0, hR, fun _ _ z => z, fun z => (nomatch z), fun _ => ⟨rfl, fun a b _ _ z => absurd z (Nat.not_lt_zero _)⟩⟩
  exact key
