/-! What is reached, the reference's way. -/
def MB (V : Sto) (A : Nat → Bool) (W M : Sto) : Prop :=
  (RelD V M) ∧
  (NM V W M) ∧
  (∀ u, u < (V 1 0).toNatClampNeg → M 20 u = b2 (A u))
theorem MB.r {V : Sto} {A : Nat → Bool} {W M : Sto} (h : MB V A W M) : RelD V M := h.1
theorem MB.n {V : Sto} {A : Nat → Bool} {W M : Sto} (h : MB V A W M) : NM V W M := h.2.1
theorem MB.u {V : Sto} {A : Nat → Bool} {W M : Sto} (h : MB V A W M) : ∀ u, u < (V 1 0).toNatClampNeg → M 20 u = b2 (A u) := h.2.2
theorem MB.only {V W M N : Sto} {A : Nat → Bool} {L : List Nat} (h : MB V A W M) (ho : Only L M N) (hl : ∀ q ∈ L, 22 < q) : MB V A W N := by
  have e : ∀ q, q < 23 → N q = M q := fun q hq => ho q (fun z => by have := hl q z; omega)
  refine ⟨h.r.only ho (fun q hq => by have := hl q hq; omega), ⟨?_, ?_⟩, ?_⟩
  · rw [e 21 (by decide)]; exact h.n.d
  · rw [e 22 (by decide)]; exact h.n.c
  · rw [e 20 (by decide)]; exact h.u
def RB (V : Sto) (A : Nat → Bool) (W T : Sto) : Prop :=
  (∀ s, s < (V 2 0).toNatClampNeg → T 25 s = 0 ∨ (T 25 s = 1 ∧ Rch V A W s)) ∧
  (∀ n, n < 200 → T 23 n = 0 ∨ (T 23 n = 1 ∧ CR V A W n))
theorem RB.a {V : Sto} {A : Nat → Bool} {W T : Sto} (h : RB V A W T) : ∀ s, s < (V 2 0).toNatClampNeg → T 25 s = 0 ∨ (T 25 s = 1 ∧ Rch V A W s) := h.1
theorem RB.c {V : Sto} {A : Nat → Bool} {W T : Sto} (h : RB V A W T) : ∀ n, n < 200 → T 23 n = 0 ∨ (T 23 n = 1 ∧ CR V A W n) := h.2
def Ed (V W T : Sto) (r : Nat) : Prop := T 25 (sec V r) = 1 → (W 40 (dY V r) = 1 → T 25 ((W 41 (dY V r)).toNatClampNeg) = 1) ∧ (W 40 (dY V r) = 3 → T 23 ((W 41 (dY V r)).toNatClampNeg) = 1)
def outR (V T : Sto) : Nat := (List.range ((V 2 0).toNatClampNeg)).countP (fun s => !decide (T 25 s = 1))
def GrM (T T' : Sto) : Prop :=
  (∀ s, T 25 s = 1 → T' 25 s = 1) ∧
  (∀ n, T 23 n = 1 → T' 23 n = 1)
theorem GrM.r {T T' : Sto} (h : GrM T T') : ∀ s, T 25 s = 1 → T' 25 s = 1 := h.1
theorem GrM.n {T T' : Sto} (h : GrM T T') : ∀ n, T 23 n = 1 → T' 23 n = 1 := h.2
theorem GrM.refl {T : Sto} : GrM T T := ⟨fun _ h => h, fun _ h => h⟩
theorem GrM.trans {X Y Z : Sto} (h : GrM X Y) (g : GrM Y Z) : GrM X Z := ⟨fun s hs => g.r s (h.r s hs), fun n hn => g.n n (h.n n hn)⟩
theorem reachBy_eq {V W T : Sto} (h : WF V) {A : Nat → Bool} (hN : NS V A W) (hM : MB V A W T) (hB : RB V A W T) {r : Nat} (hr : r < (V 4 0).toNatClampNeg) : ∃ b T', f_Mo_reachBy T (nI r) = some (b2 b, T') ∧ Only [23, 25] T T' ∧ RB V A W T' ∧ GrM T T' ∧ (b = false → T' 25 = T 25) ∧ (b = true → outR V T' < outR V T) ∧ Ed V W T' r := by
  have hr1 := h.r1
  have hs1 := h.s1
  have hy1 := h.y1
  obtain ⟨yl, yu, ye⟩ := dY_lt h hr
  obtain ⟨sl, se⟩ := sec_lt h hr
  have hF : MFs V A W := fun y hy hA => (mean_eq h hN hM.n hM.r hy hA).2
  unfold f_Mo_reachBy
  rw [ib_nI (show r < 600 by omega) (by decide), cI (show r < 2 ^ 31 by omega), hM.r.rs, hM.r.ry, se, ib_nI (show sec V r < 96 by omega) (by decide), cI (show sec V r < 2 ^ 31 by omega), ye]
  simp only [ck_mk]
  rcases hB.a _ sl with e0 | ⟨e0, hRs⟩
  · rw [if_pos e0]
    exact ⟨false, T, rfl, Only.refl, hB, GrM.refl, fun _ => rfl, fun z => (nomatch z), fun z => by rw [e0] at z; exact absurd z (by decide)⟩
  · have hA : A (dU V (dY V r)) = true := by rw [yu]; exact (hRs.inn h hN.n hF).2
    have mc := (mean_eq h hN hM.n hM.r yl hA).1
    rw [if_neg (by rw [e0]; decide), mc.se, cl_mk]
    simp only [jn_mk, i10, if_true, if_false, mc.co, cl_mk]
    have n0 : bb 0 = true := rfl
    have n1 : bb 1 = true := rfl
    rcases hF _ yl hA with ⟨e, -⟩ | ⟨e, e2, e3⟩ | ⟨e, -⟩ | ⟨e, e2, e3, e4⟩
    · rw [e, if_neg (show ¬ (0 : Int32) = 1 by decide), if_pos rfl, decide_eq_false (show ¬ (0 : Int32) = 3 by decide), if_pos b2f, n0, ck_mk]
      exact ⟨false, T, rfl, Only.refl, hB, GrM.refl, fun _ => rfl, fun z => (nomatch z), fun _ => ⟨fun z => by rw [e] at z; exact absurd z (by decide), fun z => by rw [e] at z; exact absurd z (by decide)⟩⟩
    · have hl := ib_lt e2
      rw [e, if_pos rfl, if_neg (ib_ne e2), ib_mono e2 hs1, ck_mk, ck_mk, nm_mk, decide_eq_false (show ¬ (1 : Int32) = 3 by decide)]
      rcases hB.a _ hl with f | ⟨f, f2⟩
      · rw [if_pos f]
        have mc2 : f_Mo_isCommon (sw T 25 ((W 41 (dY V r)).toNatClampNeg) 1) (nI (dY V r)) = some (b2 false, sw T 25 ((W 41 (dY V r)).toNatClampNeg) 1) := by
          have hM2 : MB V A W (sw T 25 ((W 41 (dY V r)).toNatClampNeg) 1) := hM.only (L := [25]) (Only.refl.sw (by decide)) (by decide)
          have := (mean_eq h hN hM2.n hM2.r yl hA).1.co
          rw [e] at this
          exact this
        rw [mc2, cl_mk, if_pos b2f, n1, ck_mk]
        have e25 : ∀ t, sw T 25 ((W 41 (dY V r)).toNatClampNeg) 1 25 t = if t = (W 41 (dY V r)).toNatClampNeg then 1 else T 25 t := fun t => sw_at _ _ _ _ _
        refine ⟨true, _, rfl, Only.refl.sw (by decide), ⟨fun t ht => ?_, fun n hn => ?_⟩, ⟨fun t ht => ?_, fun n hn => ?_⟩, fun z => (nomatch z), fun _ => ?_, fun _ => ⟨fun _ => by rw [e25, if_pos rfl], fun z => by rw [e] at z; exact absurd z (by decide)⟩⟩
        · rw [e25]
          by_cases c : t = (W 41 (dY V r)).toNatClampNeg
          · rw [if_pos c, c]; exact Or.inr ⟨rfl, Rch.step hr hRs e⟩
          · rw [if_neg c]; exact hB.a t ht
        · rw [sw_ne (by decide)]; exact hB.c n hn
        · rw [e25]
          by_cases c : t = (W 41 (dY V r)).toNatClampNeg
          · rw [if_pos c]
          · rw [if_neg c]; exact ht
        · rw [sw_ne (by decide)]; exact hn
        · unfold outR
          refine countP_lt (a := (W 41 (dY V r)).toNatClampNeg) (fun t _ ht => ?_) (List.mem_range.mpr hl) (by rw [f]; decide) (by rw [e25, if_pos rfl]; rfl)
          rw [e25] at ht
          by_cases c : t = (W 41 (dY V r)).toNatClampNeg
          · rw [if_pos c] at ht; exact absurd ht (by decide)
          · rw [if_neg c] at ht; exact ht
      · rw [if_neg (by rw [f]; decide), if_pos b2f, n0, ck_mk]
        exact ⟨false, T, rfl, Only.refl, hB, GrM.refl, fun _ => rfl, fun z => (nomatch z), fun _ => ⟨fun _ => f, fun z => by rw [e] at z; exact absurd z (by decide)⟩⟩
    · rw [e, if_neg (show ¬ (2 : Int32) = 1 by decide), if_pos rfl, decide_eq_false (show ¬ (2 : Int32) = 3 by decide), if_pos b2f, n0, ck_mk]
      exact ⟨false, T, rfl, Only.refl, hB, GrM.refl, fun _ => rfl, fun z => (nomatch z), fun _ => ⟨fun z => by rw [e] at z; exact absurd z (by decide), fun z => by rw [e] at z; exact absurd z (by decide)⟩⟩
    · rw [e, if_neg (show ¬ (3 : Int32) = 1 by decide), if_pos rfl, decide_eq_true (show (3 : Int32) = 3 from rfl), if_neg b2t, cI (show dY V r < 2 ^ 31 by omega), hM.r.yn, h.yn _ yl, ib_nI (show dY V r < 400 by omega) (by decide), ck_mk, ck_mk, nm_mk, n0, ck_mk]
      have e23 : ∀ t, sw T 23 ((V 22 (dY V r)).toNatClampNeg) 1 23 t = if t = (V 22 (dY V r)).toNatClampNeg then 1 else T 23 t := fun t => sw_at _ _ _ _ _
      have o25 : sw T 23 ((V 22 (dY V r)).toNatClampNeg) 1 25 = T 25 := sw_ne (by decide)
      refine ⟨false, _, rfl, Only.refl.sw (by decide), ⟨fun t ht => by rw [o25]; exact hB.a t ht, fun n hn => ?_⟩, ⟨fun t ht => by rw [o25]; exact ht, fun n hn => ?_⟩, fun _ => o25, fun z => (nomatch z), fun _ => ⟨fun z => by rw [e] at z; exact absurd z (by decide), fun _ => by rw [e23, e2, if_pos rfl]⟩⟩
      · rw [e23]
        by_cases c : n = (V 22 (dY V r)).toNatClampNeg
        · rw [if_pos c]; exact Or.inr ⟨rfl, r, hr, hRs, e, by rw [e2, c]⟩
        · rw [if_neg c]; exact hB.c n hn
      · rw [e23]
        by_cases c : n = (V 22 (dY V r)).toNatClampNeg
        · rw [if_pos c]
        · rw [if_neg c]; exact hn
theorem reach169 {V W T : Sto} (h : WF V) {A : Nat → Bool} (hN : NS V A W) (hM : MB V A W T) (hB : RB V A W T) {k : Int32 → Sto → RT} {Q : RT → Prop} (hk : ∀ b T', Only [23, 25] T T' → RB V A W T' → GrM T T' → (b = true → outR V T' < outR V T) → (b = false → ∀ r, r < (V 4 0).toNatClampNeg → Ed V W T' r) → Q (k (b2 b) T')) : Q (lp_Mo_reach_169 k FU 0 0 T) := by
  have hr1 := h.r1
  have key := forK (σ := Int32 × Sto) (L := fun n i X => lp_Mo_reach_169 k n X.1 i X.2) (N := (V 4 0).toNatClampNeg) (Inv := fun i X => Only [23, 25] T X.2 ∧ RB V A W X.2 ∧ GrM T X.2 ∧ ∃ b, X.1 = b2 b ∧ (b = true → outR V X.2 < outR V T) ∧ (b = false → X.2 25 = T 25 ∧ ∀ r, r < i → Ed V W X.2 r)) (Q := Q) (by omega) (by
    rintro n i ⟨x, X⟩ hi ⟨x1, x2, x3, b, x4, x5, x6⟩ ih
    simp only at x1 x2 x3 x4 x5 x6
    have hMX : MB V A W X := hM.only x1 (by decide)
    obtain ⟨c, Y, y1, y2, y3, y4, y5, y6, y7⟩ := reachBy_eq h hN hMX x2 hi
    show Q (lp_Mo_reach_169 k (n + 1) x (nI i) X)
    rw [lp_Mo_reach_169, hMX.r.r0, if_neg (fun z => by have := (le_cnt h.r0 (by omega)).mp z; omega), y1, cl_mk, nI1, x4]
    have ole : outR V Y ≤ outR V X := by
      unfold outR
      refine List.countP_mono_left (fun t _ ht => ?_)
      cases hx : decide (X 25 t = 1) with
      | false => rfl
      | true =>
        rw [decide_eq_true (y4.r t (of_decide_eq_true hx))] at ht
        cases ht
    cases c with
    | true =>
      rw [if_neg b2t]
      refine ih (1, Y) ⟨x1.trans y2, y3, x3.trans y4, true, rfl, fun _ => ?_, fun z => (nomatch z)⟩
      have := y6 rfl
      show outR V Y < outR V T
      cases b with
      | true => have := x5 rfl; omega
      | false =>
        have e : outR V X = outR V T := by unfold outR; rw [(x6 rfl).1]
        omega
    | false =>
      rw [if_pos b2f]
      cases b with
      | true =>
        rw [if_neg b2t]
        refine ih (1, Y) ⟨x1.trans y2, y3, x3.trans y4, true, rfl, fun _ => ?_, fun z => (nomatch z)⟩
        have := x5 rfl
        show outR V Y < outR V T
        omega
      | false =>
        rw [if_pos b2f]
        obtain ⟨z1, z2⟩ := x6 rfl
        have e25 := y5 rfl
        refine ih (0, Y) ⟨x1.trans y2, y3, x3.trans y4, false, rfl, fun z => (nomatch z), fun _ => ⟨by show Y 25 = T 25; rw [e25, z1], fun r hr => ?_⟩⟩
        show Ed V W Y r
        by_cases e : r = i
        · rw [e]; exact y7
        · intro hh
          rw [e25] at hh
          have := z2 r (by omega) hh
          exact ⟨fun z => y4.r _ (this.1 z), fun z => y4.n _ (this.2 z)⟩) (by
    rintro n ⟨x, X⟩ ⟨x1, x2, x3, b, x4, x5, x6⟩
    simp only at x1 x2 x3 x4 x5 x6
    have hMX : MB V A W X := hM.only x1 (by decide)
    show Q (lp_Mo_reach_169 k (n + 1) x (nI ((V 4 0).toNatClampNeg)) X)
    rw [lp_Mo_reach_169, hMX.r.r0, if_pos ((le_cnt h.r0 (by omega)).mpr (Nat.le_refl _)), x4]
    exact hk b X x1 x2 x3 x5 (fun z => (x6 z).2)) 0 (0, T) (Nat.zero_le _) ⟨Only.refl, hB, GrM.refl, false, rfl, fun z => (nomatch z), fun _ => ⟨rfl, fun r hr => absurd hr (Nat.not_lt_zero _)⟩⟩
  exact key
/-- the reference's rows of what is reached, beside the class's -/
def RM (V : Sto) (Y M : Sto) : Prop :=
  (∀ s, s < (V 2 0).toNatClampNeg → M 25 s = Y 43 s) ∧
  (∀ n, n < 200 → M 23 n = Y 44 n)
theorem RM.r {V : Sto} {Y M : Sto} (h : RM V Y M) : ∀ s, s < (V 2 0).toNatClampNeg → M 25 s = Y 43 s := h.1
theorem RM.n {V : Sto} {Y M : Sto} (h : RM V Y M) : ∀ n, n < 200 → M 23 n = Y 44 n := h.2
theorem reach161 {V W T Y : Sto} (h : WF V) {A : Nat → Bool} (hN : NS V A W) (hY : RS V A W Y) (hM : MB V A W T) (hB : RB V A W T) (hroot : ∀ s, rtS V A W s → T 25 s = 1) {k : Sto → RT} {Q : RT → Prop} (hk : ∀ T', Only [23, 25] T T' → RM V Y T' → Q (k T')) : Q (lp_Mo_reach_161 k FU 1 T) := by
  have hs1 := h.s1
  have hF : MFs V A W := fun y hy hA => (mean_eq h hN hM.n hM.r hy hA).2
  have key := loopK (σ := Int32 × Sto) (L := fun n X => lp_Mo_reach_161 k n X.1 X.2) (Inv := fun m X => Only [23, 25] T X.2 ∧ RB V A W X.2 ∧ GrM T X.2 ∧ ((X.1 = 1 ∧ m = outR V X.2 + 1) ∨ (X.1 = 0 ∧ ∀ r, r < (V 4 0).toNatClampNeg → Ed V W X.2 r))) (Q := Q) (by
    rintro n m ⟨x, X⟩ ⟨x1, x2, x3, x4⟩ ih
    simp only at x1 x2 x3 x4
    show Q (lp_Mo_reach_161 k (n + 1) x X)
    rw [lp_Mo_reach_161]
    rcases x4 with ⟨e, em⟩ | ⟨e, ec⟩
    · rw [if_neg (by rw [e]; decide)]
      refine reach169 h hN (hM.only x1 (by decide)) x2 (fun b Z z1 z2 z3 z4 z5 => ?_)
      cases b with
      | true =>
        have := z4 rfl
        exact ih (outR V Z + 1) (1, Z) (by omega) ⟨x1.trans z1, z2, x3.trans z3, Or.inl ⟨rfl, rfl⟩⟩
      | false => exact ih 0 (0, Z) (by omega) ⟨x1.trans z1, z2, x3.trans z3, Or.inr ⟨rfl, z5 rfl⟩⟩
    · rw [if_pos e]
      have hcl : clo V W (fun s => s < (V 2 0).toNatClampNeg ∧ X 25 s = 1) := by
        rintro r hr ⟨r1, r2⟩ hm
        have hR : Rch V A W (sec V r) := by
          rcases x2.a _ r1 with f | ⟨-, f⟩
          · rw [f] at r2; exact absurd r2 (by decide)
          · exact f
        exact ⟨((Rch.step hr hR hm).inn h hN.n hF).1, (ec r hr r2).1 hm⟩
      have hall : ∀ s, Rch V A W s → X 25 s = 1 := fun s hs => (hs (fun s => s < (V 2 0).toNatClampNeg ∧ X 25 s = 1) (fun t ht => ⟨((Rch.root ht).inn h hN.n hF).1, x3.r t (hroot t ht)⟩) hcl).2
      refine hk X x1 ⟨fun s hs => ?_, fun n hn => ?_⟩
      · rcases hY.r s (by omega) with ⟨f1, f2⟩ | ⟨f1, f2⟩
        · rw [f1]; exact hall s f2
        · rw [f1]
          rcases x2.a s hs with g | ⟨-, g⟩
          · exact g
          · exact absurd g f2
      · rcases hY.c n hn with ⟨f1, f2⟩ | ⟨f1, f2⟩
        · rw [f1]
          obtain ⟨r, r1, r2, r3, r4⟩ := f2
          have := (ec r r1 (hall _ r2)).2 r3
          rw [r4] at this
          exact this
        · rw [f1]
          rcases x2.c n hn with g | ⟨-, g⟩
          · exact g
          · exact absurd g f2) (outR V T + 1) FU (1, T) ⟨Only.refl, hB, GrM.refl, Or.inl ⟨rfl, rfl⟩⟩ (by
    have := List.countP_le_length (p := fun s => !decide (T 25 s = 1)) (l := List.range ((V 2 0).toNatClampNeg))
    rw [List.length_range] at this
    have e : outR V T ≤ (V 2 0).toNatClampNeg := this
    unfold FU
    omega)
  exact key
theorem find_congr {l : List Nat} {P Q : Nat → Bool} (h : ∀ x ∈ l, P x = Q x) : l.find? P = l.find? Q := by
  induction l with
  | nil => rfl
  | cons a l ih =>
    rw [List.find?_cons, List.find?_cons, h a List.mem_cons_self, ih (fun x hx => h x (List.mem_cons_of_mem _ hx))]
theorem reach206 {V W T Y : Sto} (h : WF V) {A : Nat → Bool} (hN : NS V A W) (hY : RS V A W Y) (h40 : Y 40 = W 40) (hM : MB V A W T) (hR : RM V Y T) {kf : Int32 → Sto → RT} {kn : Sto → RT} : lp_Mo_reach_206 kf kn FU 0 T = match (ord V).find? (misP Y V) with
    | some r => kf (nI r) T
    | none => kn T := by
  have hr1 := h.r1
  have hs1 := h.s1
  have hy1 := h.y1
  have hF : MFs V A W := fun y hy hA => (mean_eq h hN hM.n hM.r hy hA).2
  refine searchM h (M := T) (P := misP Y V) (kf := kf) (kn := kn) (Lo := lp_Mo_reach_206 kf kn) (Li := fun s k => lp_Mo_reach_216 (nI s) (fun y2 V14 => kf y2 V14) k) ?_ ?_ ?_ ?_
  · intro n s hs
    rw [lp_Mo_reach_206, hM.r.s0, if_neg (fun z => by have := (le_cnt h.s0 (by omega)).mp z; omega), nI1, nI_0]
  · intro n
    rw [lp_Mo_reach_206, hM.r.s0, if_pos ((le_cnt h.s0 (by omega)).mpr (Nat.le_refl _))]
  · intro s k n r hs hr
    obtain ⟨yl, yu, ye⟩ := dY_lt h hr
    obtain ⟨sl, se⟩ := sec_lt h hr
    show lp_Mo_reach_216 (nI s) (fun y2 V14 => kf y2 V14) k (n + 1) (nI r) T = if (decide (sec V r = s) && misP Y V r) = true then kf (nI r) T else lp_Mo_reach_216 (nI s) (fun y2 V14 => kf y2 V14) k n (nI (r + 1)) T
    rw [lp_Mo_reach_216, hM.r.r0, if_neg (fun z => by have := (le_cnt h.r0 (by omega)).mp z; omega), ib_nI (show s < 96 by omega) (by decide), ib_nI (show r < 600 by omega) (by decide), cI (show s < 2 ^ 31 by omega), cI (show r < 2 ^ 31 by omega), hM.r.rs, hM.r.ry, se, ye, hR.r s hs, nI1]
    simp only [ck_mk]
    unfold misP
    rw [h40]
    by_cases c : sec V r = s
    · rw [decide_eq_true c, Bool.true_and, c]
      rcases hY.r s (by omega) with ⟨e, e2⟩ | ⟨e, -⟩
      · have hA : A (dU V (dY V r)) = true := by rw [yu, c]; exact (e2.inn h hN.n hF).2
        rw [if_neg (by rw [e]; decide), if_pos rfl, (mean_eq h hN hM.n hM.r yl hA).1.so, cl_mk, decide_eq_true e, Bool.true_and]
        by_cases d : W 40 (dY V r) = 0
        · rw [if_pos d, if_pos (decide_eq_true d)]
        · rw [if_neg d, if_neg (by rw [decide_eq_false d]; decide)]
      · rw [if_pos e, decide_eq_false (show ¬ Y 43 s = 1 by rw [e]; decide), Bool.false_and, if_neg (by decide)]
    · rw [decide_eq_false c, Bool.false_and, if_neg (show ¬ false = true by decide), if_neg (show ¬ nI (sec V r) = nI s from fun z => c ((nI_eq (by omega) (by omega)).mp z))]
      by_cases d : Y 43 s = 0
      · rw [if_pos d]
      · rw [if_neg d]
  · intro s k n hs
    show lp_Mo_reach_216 (nI s) (fun y2 V14 => kf y2 V14) k (n + 1) (nI ((V 4 0).toNatClampNeg)) T = k T
    rw [lp_Mo_reach_216, hM.r.r0, if_pos ((le_cnt h.r0 (by omega)).mpr (Nat.le_refl _))]
