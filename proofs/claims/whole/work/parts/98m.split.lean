/-! The partition made finer, to its end. -/
def lead (V T : Sto) : Nat := (List.range ((V 2 0).toNatClampNeg)).countP (fun s => decide (T 46 s = nI s))
theorem lm_congr {T X : Sto} (h40 : X 40 = T 40) (h41 : X 41 = T 41) (h46 : X 46 = T 46) (y : Nat) : lm X y = lm T y := by unfold lm; rw [h40, h41, h46]
theorem MR.w {V S : Sto} (h : WF V) (hm : MR V S) {r : Nat} (hr : r < (V 4 0).toNatClampNeg) (h43 : ¬ S 43 (sec V r) = 0) (h40 : S 40 (dY V r) = 1) : ib (S 41 (dY V r)) 96 = true ∧ (S 41 (dY V r)).toNatClampNeg < (V 2 0).toNatClampNeg := by
  rcases hm r hr h43 with ⟨e, -⟩ | ⟨-, e2, -⟩ | ⟨e, -⟩ | ⟨e, -⟩
  · rw [h40] at e; exact absurd e (by decide)
  · exact ⟨ib_mono e2 h.s1, ib_lt e2⟩
  · rw [h40] at e; exact absurd e (by decide)
  · rw [h40] at e; exact absurd e (by decide)
theorem targets_eq {V S T : Sto} (h : WF V) (hd : Dat V T) (ho : OrdQ V T) (hm : MR V S) (h40 : T 40 = S 40) (h41 : T 41 = S 41) {s t : Nat} (hs : s < (V 2 0).toNatClampNeg) (ht : t < (V 2 0).toNatClampNeg) (hl : ln V s = ln V t) (h3 : ¬ S 43 s = 0) (h4 : ¬ S 43 t = 0) : f_Fo_hasSameTargets T (nI s) (nI t) = some (b2 (sT V T s t), T) := by
  have hr1 := h.r1
  have hy1 := h.y1
  have l1 := ln_le h hs
  unfold f_Fo_hasSameTargets
  have key := allK (L := fun n k => lp_Fo_hasSameTargets_2 (nI s) (nI t) (fun V6 => some (0, V6)) (fun V7 => some (1, V7)) n (nI k) T) (P := fun k => decide (lm T (dY V (rl V s k)) = lm T (dY V (rl V t k)))) (N := ln V s) (kt := some (1, T)) (kf := some (0, T)) (by omega) (by
    intro n k hk
    have hk2 : k < ln V t := by omega
    obtain ⟨r1, r2⟩ := rl_lt hk
    obtain ⟨q1, q2⟩ := rl_lt hk2
    obtain ⟨y1, -, y3⟩ := dY_lt h r1
    obtain ⟨z1, -, z3⟩ := dY_lt h q1
    have w1 := leadOf_eq (V := V) (T := T) (y := dY V (rl V s k)) (by omega) (fun z => by rw [h41]; rw [h40] at z; exact (hm.w h r1 (by rw [r2]; exact h3) z).1)
    have w2 := leadOf_eq (V := V) (T := T) (y := dY V (rl V t k)) (by omega) (fun z => by rw [h41]; rw [h40] at z; exact (hm.w h q1 (by rw [q2]; exact h4) z).1)
    show lp_Fo_hasSameTargets_2 (nI s) (nI t) (fun V6 => some (0, V6)) (fun V7 => some (1, V7)) (n + 1) (nI k) T = if decide (lm T (dY V (rl V s k)) = lm T (dY V (rl V t k))) = true then lp_Fo_hasSameTargets_2 (nI s) (nI t) (fun V6 => some (0, V6)) (fun V7 => some (1, V7)) n (nI (k + 1)) T else some (0, T)
    rw [lp_Fo_hasSameTargets_2, countL h ho hs, cl_mk, if_neg (nI_ge hk (by omega)), pickL h ho hs hk, cl_mk, ib_nI (show rl V s k < 600 by omega) (by decide), ck_mk, pickL h ho ht hk2, cl_mk, ib_nI (show rl V t k < 600 by omega) (by decide), ck_mk, cI (show rl V s k < 2 ^ 31 by omega), cI (show rl V t k < 2 ^ 31 by omega), hd 30 rfl, y3, z3, w1, cl_mk, w2, cl_mk, nI1]
    by_cases c : lm T (dY V (rl V s k)) = lm T (dY V (rl V t k))
    · rw [if_pos c, if_pos (decide_eq_true c)]
    · rw [if_neg c, if_neg (by rw [decide_eq_false c]; decide)]) (by
    intro n
    show lp_Fo_hasSameTargets_2 (nI s) (nI t) (fun V6 => some (0, V6)) (fun V7 => some (1, V7)) (n + 1) (nI (ln V s)) T = some (1, T)
    rw [lp_Fo_hasSameTargets_2, countL h ho hs, cl_mk, if_pos (nI_le (Nat.le_refl _) (by omega))])
  refine Eq.trans key ?_
  unfold sT
  cases (List.range (ln V s)).all (fun k => decide (lm T (dY V (rl V s k)) = lm T (dY V (rl V t k)))) <;> rfl
/-- the finer likeness -/
def E1 (V T : Sto) (E : Nat → Nat → Prop) (s t : Nat) : Prop := E s t ∧ sT V T s t = true
theorem E1_eqv {V S T : Sto} {E : Nat → Nat → Prop} (h : EI V S E T) : Eqv ((V 2 0).toNatClampNeg) (E1 V T E) := by
  refine ⟨fun s hs => ⟨h.e.r s hs, sT_iff.mpr (fun _ _ => rfl)⟩, ?_, ?_⟩
  · rintro s t hs ht ⟨a, b⟩
    have hl := E0_ln (h.b s t hs ht a)
    exact ⟨h.e.s s t hs ht a, sT_iff.mpr (fun k hk => (sT_iff.mp b k (by omega)).symm)⟩
  · rintro s t u hs ht hu ⟨a, b⟩ ⟨c, d⟩
    have hl := E0_ln (h.b s t hs ht a)
    exact ⟨h.e.t s t u hs ht hu a c, sT_iff.mpr (fun k hk => (sT_iff.mp b k hk).trans (sT_iff.mp d k (by omega)))⟩
theorem lm_meq {V S T : Sto} (h : WF V) (hm : MR V S) (h40 : T 40 = S 40) (h41 : T 41 = S 41) {R : Nat → Nat → Prop} {E : Nat → Nat → Prop} (hT : EI V S E T) (hR : Post V S R) (hRE : ∀ s t, R s t → E s t) {s t : Nat} (hst : R s t) : sT V T s t = true := by
  obtain ⟨a1, a2, a3, a4, a5, a6, a7⟩ := hR s t hst
  obtain ⟨-, -, -, b4, b5⟩ := look_iff.mp a6
  refine sT_iff.mpr (fun k hk => ?_)
  obtain ⟨r1, r2⟩ := rl_lt hk
  obtain ⟨q1, q2⟩ := rl_lt (s := t) (k := k) (V := V) (by omega)
  have h4 : S 40 (dY V (rl V s k)) = S 40 (dY V (rl V t k)) := (sR_iff.mp (b5 k hk)).2.2.2.1
  have s3 : ¬ S 43 (sec V (rl V s k)) = 0 := by rw [r2]; exact (mf_text a4).2.2.1
  have t3 : ¬ S 43 (sec V (rl V t k)) = 0 := by rw [q2]; exact (mf_text a5).2.2.1
  unfold lm
  rw [h40, h41, ← h4]
  by_cases c : S 40 (dY V (rl V s k)) = 1
  · rw [if_pos c, if_pos c]
    rcases (a7 k hk).1 c with e | e
    · rw [e]
    · exact (hT.iff (hm.w h r1 s3 c).2 (hm.w h q1 t3 (by rw [← h4]; exact c)).2).mpr (hRE _ _ e)
  · rw [if_neg c, if_neg c]
    rcases hm _ r1 s3 with ⟨-, e, -⟩ | ⟨e, -⟩ | ⟨-, e⟩ | ⟨e, -⟩
    · rcases hm _ q1 t3 with ⟨-, f, -⟩ | ⟨f, -⟩ | ⟨-, f⟩ | ⟨f, -⟩
      · rw [e, f]
      · rw [← h4] at f; exact absurd f c
      · rw [e, f]
      · exact (a7 k hk).2 (by rw [h4]; exact f)
    · exact absurd e c
    · rcases hm _ q1 t3 with ⟨-, f, -⟩ | ⟨f, -⟩ | ⟨-, f⟩ | ⟨f, -⟩
      · rw [e, f]
      · rw [← h4] at f; exact absurd f c
      · rw [e, f]
      · exact (a7 k hk).2 (by rw [h4]; exact f)
    · exact (a7 k hk).2 e
theorem split_eq {V S T : Sto} (h : WF V) (hd : Dat V T) (ho : OrdQ V T) (hm : MR V S) (h40 : T 40 = S 40) (h41 : T 41 = S 41) {E : Nat → Nat → Prop} (hT : EI V S E T) : ∃ c T', f_Fo_split T = some (b2 c, T') ∧ Only [46, 47] T T' ∧ EI V S (E1 V T E) T' ∧ (c = false → ∀ s, s < (V 2 0).toNatClampNeg → T' 46 s = T 46 s) ∧ (c = true → lead V T < lead V T' ∧ 0 < lead V T) := by
  have hs1 := h.s1
  have hE1 := E1_eqv hT
  unfold f_Fo_split
  have key := forK (σ := Int32 × Sto) (L := fun n i X => lp_Fo_split_4 (fun y1 V3 => ck (cpb 0 0 (V3 2 0) 96 96) <| nm (cpw V3 47 46 0 0 (V3 2 0)) fun V4 => ck (bb y1) <| some (y1, V4)) n X.1 i X.2) (N := (V 2 0).toNatClampNeg) (Inv := fun i X => Only [47] T X.2 ∧ (∀ s, s < i → X.2 47 s = nI ((X.2 47 s).toNatClampNeg)) ∧ IsMin i (E1 V T E) (fun s => (X.2 47 s).toNatClampNeg) ∧ ∃ c, X.1 = b2 c ∧ (c = false → ∀ s, s < i → X.2 47 s = T 46 s) ∧ (c = true → ∃ s, s < i ∧ ¬ X.2 47 s = T 46 s)) (Q := fun r => ∃ c T', r = some (b2 c, T') ∧ Only [46, 47] T T' ∧ EI V S (E1 V T E) T' ∧ (c = false → ∀ s, s < (V 2 0).toNatClampNeg → T' 46 s = T 46 s) ∧ (c = true → lead V T < lead V T' ∧ 0 < lead V T)) (by omega) (by
    rintro n i ⟨x, X⟩ hi ⟨x1, x2, x3, c, x4, x5, x6⟩ ih
    simp only at x1 x2 x3 x4 x5 x6
    have hdX : Dat V X := hd.only x1 (by decide)
    have hoX : OrdQ V X := ho.keep (x1 32 (by decide)) (x1 33 (by decide))
    have e40 : X 40 = S 40 := by rw [x1 40 (by decide), h40]
    have e41 : X 41 = S 41 := by rw [x1 41 (by decide), h41]
    have e46 : X 46 = T 46 := x1 46 (by decide)
    have hsT : ∀ a b, sT V X a b = sT V T a b := fun a b => by
      unfold sT
      have : ∀ y, lm X y = lm T y := fun y => lm_congr (x1 40 (by decide)) (x1 41 (by decide)) e46 y
      simp only [this]
    obtain ⟨m1, m2, m3⟩ := hT.m i hi
    simp only at m1 m2 m3
    show ∃ c T', lp_Fo_split_4 (fun y1 V3 => ck (cpb 0 0 (V3 2 0) 96 96) <| nm (cpw V3 47 46 0 0 (V3 2 0)) fun V4 => ck (bb y1) <| some (y1, V4)) (n + 1) x (nI i) X = some (b2 c, T') ∧ _
    have put : ∀ y, y ≤ i → E1 V T E y i → (∀ j, j < y → ¬ E1 V T E j i) → f_Fo_firstOfSameTargets X (nI i) = some (nI y, X) → ∃ c T', lp_Fo_split_4 (fun y1 V3 => ck (cpb 0 0 (V3 2 0) 96 96) <| nm (cpw V3 47 46 0 0 (V3 2 0)) fun V4 => ck (bb y1) <| some (y1, V4)) (n + 1) x (nI i) X = some (b2 c, T') ∧ Only [46, 47] T T' ∧ EI V S (E1 V T E) T' ∧ (c = false → ∀ s, s < (V 2 0).toNatClampNeg → T' 46 s = T 46 s) ∧ (c = true → lead V T < lead V T' ∧ 0 < lead V T) := by
      intro y hy1 hy2 hy3 hf
      have e47 : ∀ s, sw X 47 i (nI y) 47 s = if s = i then nI y else X 47 s := fun s => sw_at _ _ _ _ _
      rw [lp_Fo_split_4, hdX 2 rfl, if_neg (fun z => by have := (le_cnt h.s0 (by omega)).mp z; omega), hf, cl_mk, ib_nI (show i < 96 by omega) (by decide)]
      simp only [ck_mk, nm_mk]
      rw [cI (by omega), e47, if_pos rfl, sw_ne (show (46 : Nat) ≠ 47 by decide), e46, nI1]
      have nx : ∀ c' : Bool, (c' = false → c = false ∧ nI y = T 46 i) → (c' = true → c = true ∨ ¬ nI y = T 46 i) → ∃ c T', lp_Fo_split_4 (fun y1 V3 => ck (cpb 0 0 (V3 2 0) 96 96) <| nm (cpw V3 47 46 0 0 (V3 2 0)) fun V4 => ck (bb y1) <| some (y1, V4)) n (b2 c') (nI (i + 1)) (sw X 47 i (nI y)) = some (b2 c, T') ∧ Only [46, 47] T T' ∧ EI V S (E1 V T E) T' ∧ (c = false → ∀ s, s < (V 2 0).toNatClampNeg → T' 46 s = T 46 s) ∧ (c = true → lead V T < lead V T' ∧ 0 < lead V T) := by
        intro c' hc1 hc2
        refine ih (b2 c', sw X 47 i (nI y)) ⟨x1.sw (by decide), fun s hs => ?_, fun s hs => ?_, c', rfl, fun z s hs => ?_, fun z => ?_⟩
        · show sw X 47 i (nI y) 47 s = nI ((sw X 47 i (nI y) 47 s).toNatClampNeg)
          rw [e47]
          by_cases d : s = i
          · rw [if_pos d, cI (by omega)]
          · rw [if_neg d]; exact x2 s (by omega)
        · show (sw X 47 i (nI y) 47 s).toNatClampNeg ≤ s ∧ E1 V T E ((sw X 47 i (nI y) 47 s).toNatClampNeg) s ∧ ∀ t, t < (sw X 47 i (nI y) 47 s).toNatClampNeg → ¬ E1 V T E t s
          rw [e47]
          by_cases d : s = i
          · rw [if_pos d, cI (by omega), d]; exact ⟨hy1, hy2, hy3⟩
          · rw [if_neg d]; exact x3 s (by omega)
        · show sw X 47 i (nI y) 47 s = T 46 s
          rw [e47]
          by_cases d : s = i
          · rw [if_pos d, d]; exact (hc1 z).2
          · rw [if_neg d]; exact x5 (hc1 z).1 s (by omega)
        · show ∃ s, s < i + 1 ∧ ¬ sw X 47 i (nI y) 47 s = T 46 s
          rcases hc2 z with d | d
          · obtain ⟨s, s1, s2⟩ := x6 d
            exact ⟨s, by omega, by rw [e47, if_neg (by omega)]; exact s2⟩
          · exact ⟨i, by omega, by rw [e47, if_pos rfl]; exact d⟩
      rw [x4]
      cases c with
      | true =>
        rw [if_neg b2t]
        exact nx true (fun z => (nomatch z)) (fun _ => Or.inl rfl)
      | false =>
        rw [if_pos b2f]
        by_cases d : nI y = T 46 i
        · rw [if_pos d]
          exact nx false (fun _ => ⟨rfl, d⟩) (fun z => (nomatch z))
        · rw [if_neg d]
          exact nx true (fun z => (nomatch z)) (fun _ => Or.inr d)
    have ei : T 46 i = nI ((T 46 i).toNatClampNeg) := hT.n i hi
    have low : ∀ j, j < (T 46 i).toNatClampNeg → ¬ E1 V T E j i := fun j hj z => m3 j hj z.1
    have key := fstK (L := fun n t => lp_Fo_firstOfSameTargets_7 (nI i) (fun y1 V2 => some (y1, V2)) (fun V3 => some (nI i, V3)) n (nI t) X) (P := fun t => decide ((X 47 t).toNatClampNeg = t) && (decide (T 46 t = T 46 i) && sT V T t i)) (a := (T 46 i).toNatClampNeg) (N := i) (kf := fun t => some (nI t, X)) (kn := some (nI i, X)) m1 (by omega) (by
      intro n t ht0 ht
      show lp_Fo_firstOfSameTargets_7 (nI i) (fun y1 V2 => some (y1, V2)) (fun V3 => some (nI i, V3)) (n + 1) (nI t) X = if (decide ((X 47 t).toNatClampNeg = t) && (decide (T 46 t = T 46 i) && sT V T t i)) = true then some (nI t, X) else lp_Fo_firstOfSameTargets_7 (nI i) (fun y1 V2 => some (y1, V2)) (fun V3 => some (nI i, V3)) n (nI (t + 1)) X
      rw [lp_Fo_firstOfSameTargets_7, if_neg (nI_ge ht (by omega)), ib_nI (show t < 96 by omega) (by decide), ib_nI (show i < 96 by omega) (by decide), cI (show t < 2 ^ 31 by omega), cI (show i < 2 ^ 31 by omega), nI1, e46]
      simp only [ck_mk]
      have ht2 := x2 t ht
      by_cases c1 : (X 47 t).toNatClampNeg = t
      · rw [if_pos (by rw [ht2, c1]), decide_eq_true c1, Bool.true_and]
        by_cases c2 : T 46 t = T 46 i
        · rw [if_pos c2, decide_eq_true c2, Bool.true_and]
          have hE := (hT.iff (by omega) hi).mp c2
          have hb := hT.b t i (by omega) hi hE
          have hne : t ≠ i := by omega
          obtain ⟨-, g2, g3, -⟩ := hb.resolve_left hne
          rw [targets_eq h hdX hoX hm e40 e41 (by omega) hi (E0_ln hb) (mf_text g2).2.2.1 (mf_text g3).2.2.1, cl_mk, hsT]
          cases sT V T t i with
          | false => rw [if_pos b2f, if_neg (by decide)]
          | true => rw [if_neg b2t, if_pos rfl]
        · rw [if_neg c2, decide_eq_false c2, Bool.false_and, if_neg (by decide)]
      · rw [if_neg (fun z => c1 (by rw [z, cI (by omega)])), decide_eq_false c1, Bool.false_and, if_neg (by decide)]) (by
      intro n
      show lp_Fo_firstOfSameTargets_7 (nI i) (fun y1 V2 => some (y1, V2)) (fun V3 => some (nI i, V3)) (n + 1) (nI i) X = _
      rw [lp_Fo_firstOfSameTargets_7, if_pos (nI_le (Nat.le_refl _) (by omega))])
    have hP : ∀ j, j < i → (decide ((X 47 j).toNatClampNeg = j) && (decide (T 46 j = T 46 i) && sT V T j i)) = false → ¬ ((X 47 j).toNatClampNeg = j ∧ E1 V T E j i) := by
      rintro j hj hf ⟨z1, z2, z3⟩
      rw [decide_eq_true z1, decide_eq_true ((hT.iff (by omega) hi).mpr z2), z3] at hf
      cases hf
    have hunf : f_Fo_firstOfSameTargets X (nI i) = lp_Fo_firstOfSameTargets_7 (nI i) (fun y1 V2 => some (y1, V2)) (fun V3 => some (nI i, V3)) FU (nI ((T 46 i).toNatClampNeg)) X := by
      unfold f_Fo_firstOfSameTargets
      rw [ib_nI (show i < 96 by omega) (by decide), ck_mk, cI (by omega), e46, ← ei]
    rcases key with ⟨t, k0, k1, k2, k3, k4⟩ | ⟨k1, k2⟩
    · rw [Bool.and_eq_true, Bool.and_eq_true] at k2
      have hE := (hT.iff (by omega) hi).mp (of_decide_eq_true k2.2.1)
      exact put t (by omega) ⟨hE, k2.2.2⟩ (min_step (a := (T 46 i).toNatClampNeg) hE1 hi x3 (by omega) low (fun j h1 h2 => hP j (by omega) (k3 j h1 h2))) (by rw [hunf]; exact k4)
    · exact put i (Nat.le_refl _) (hE1.r i hi) (min_step (a := (T 46 i).toNatClampNeg) hE1 hi x3 (Nat.le_refl _) low (fun j h1 h2 => hP j h2 (k1 j h1 h2))) (by rw [hunf]; exact k2)) (by
    rintro n ⟨x, X⟩ ⟨x1, x2, x3, c, x4, x5, x6⟩
    simp only at x1 x2 x3 x4 x5 x6
    have hdX : Dat V X := hd.only x1 (by decide)
    show ∃ c T', lp_Fo_split_4 (fun y1 V3 => ck (cpb 0 0 (V3 2 0) 96 96) <| nm (cpw V3 47 46 0 0 (V3 2 0)) fun V4 => ck (bb y1) <| some (y1, V4)) (n + 1) x (nI ((V 2 0).toNatClampNeg)) X = some (b2 c, T') ∧ _
    have hcb : cpb 0 0 (V 2 0) 96 96 = true := by
      unfold cpb
      have e0 : ¬ V 2 0 < 0 := by rw [h.s0]; exact nI_pos (by omega)
      have e00 : (0 : Int32).toNatClampNeg = 0 := rfl
      rw [e00, decide_eq_false e0, decide_eq_true (show 0 + (V 2 0).toNatClampNeg ≤ 96 by omega)]
      rfl
    rw [lp_Fo_split_4, hdX 2 rfl, if_pos ((le_cnt h.s0 (by omega)).mpr (Nat.le_refl _)), hcb, ck_mk, nm_mk, x4, bb_b2, ck_mk]
    obtain ⟨T', hT'⟩ : ∃ T', cpw X 47 46 0 0 (V 2 0) = T' := ⟨_, rfl⟩
    rw [hT']
    have o46 : ∀ q, q ≠ 46 → T' q = X q := fun q hq => by rw [← hT']; unfold cpw va_up; exact if_neg hq
    have n46 : ∀ s, s < (V 2 0).toNatClampNeg → T' 46 s = X 47 s := fun s hs => by
      rw [← hT']
      unfold cpw va_up va_cpy
      have e00 : (0 : Int32).toNatClampNeg = 0 := rfl
      rw [if_pos rfl]
      simp only [e00]
      rw [if_pos ⟨Nat.zero_le _, by omega⟩]
      simp
    have hO : Only [46, 47] T T' := fun q hq => by
      simp at hq
      rw [o46 q hq.1, x1 q (by simp [hq])]
    have hEI : EI V S (E1 V T E) T' := by
      refine ⟨hE1, fun s hs => by rw [n46 s hs]; exact x2 s hs, fun s hs => ?_, fun s t hs ht z => hT.b s t hs ht z.1, fun R hR s t hst => ⟨hT.p R hR s t hst, lm_meq h hm h40 h41 hT hR (hT.p R hR) hst⟩⟩
      show (T' 46 s).toNatClampNeg ≤ s ∧ E1 V T E ((T' 46 s).toNatClampNeg) s ∧ ∀ t, t < (T' 46 s).toNatClampNeg → ¬ E1 V T E t s
      rw [n46 s hs]
      exact x3 s hs
    refine ⟨c, T', rfl, hO, hEI, fun z s hs => by rw [n46 s hs]; exact x5 z s hs, fun z => ?_⟩
    obtain ⟨s, s1, s2⟩ := x6 z
    rw [← n46 s s1] at s2
    have ms := hT.m s s1
    have ms' := hEI.m s s1
    simp only at ms ms'
    have hlt : (T 46 s).toNatClampNeg < (T' 46 s).toNatClampNeg := by
      rcases Nat.lt_trichotomy ((T 46 s).toNatClampNeg) ((T' 46 s).toNatClampNeg) with d | d | d
      · exact d
      · exact absurd (by rw [hT.n s s1, hEI.n s s1, d]) s2
      · exact absurd ms'.2.1.1 (ms.2.2 _ d)
    have hms : (T' 46 s).toNatClampNeg < (V 2 0).toNatClampNeg := by omega
    have up : ∀ t, t < (V 2 0).toNatClampNeg → T 46 t = nI t → T' 46 t = nI t := by
      intro t ht hl
      have a := hT.m t ht
      have b := hEI.m t ht
      simp only at a b
      rw [hl, cI (by omega)] at a
      rw [hEI.n t ht]
      have : ¬ (T' 46 t).toNatClampNeg < t := fun z => a.2.2 _ z b.2.1.1
      rw [show (T' 46 t).toNatClampNeg = t by omega]
    refine ⟨?_, ?_⟩
    · unfold lead
      refine countP_lt (a := (T' 46 s).toNatClampNeg) (fun t ht hl => decide_eq_true (up t (List.mem_range.mp ht) (of_decide_eq_true hl))) (List.mem_range.mpr hms) ?_ ?_
      · refine decide_eq_true ?_
        have := hEI.m.self hE1 s1
        rw [hEI.n _ hms, this]
      · refine decide_eq_false (fun hl => ?_)
        have hE : E ((T' 46 s).toNatClampNeg) s := ms'.2.1.1
        have := (hT.iff hms s1).mpr hE
        rw [hl, hT.n s s1] at this
        have := (nI_eq (by omega) (by omega)).mp this
        omega
    · unfold lead
      rw [List.countP_pos_iff]
      refine ⟨0, List.mem_range.mpr (by omega), decide_eq_true ?_⟩
      have a := hT.m 0 (by omega)
      simp only at a
      rw [hT.n 0 (by omega), show (T 46 0).toNatClampNeg = 0 by omega]) 0 (0, T) (Nat.zero_le _) ⟨Only.refl, fun s hs => absurd hs (Nat.not_lt_zero _), fun s hs => absurd hs (Nat.not_lt_zero _), false, rfl, fun _ s hs => absurd hs (Nat.not_lt_zero _), fun z => (nomatch z)⟩
  exact key
