/-! Likeness: what is compared, and the class's comparisons. -/
theorem forN {σ ρ : Type} {L : Nat → Nat → σ → ρ} {Inv : Nat → σ → Prop} {Q : ρ → Prop} {N : Nat} (hN : N < 900000)
    (hstep : ∀ n i S, i < N → Inv i S → (∀ S', Inv (i + 1) S' → Q (L n (i + 1) S')) → Q (L (n + 1) i S))
    (hend : ∀ n S, Inv N S → Q (L (n + 1) N S)) : ∀ i S, i ≤ N → Inv i S → Q (L FU i S) := by
  intro i S hi hI
  have key := loopK (σ := Nat × σ) (L := fun n p => L n p.1 p.2) (Inv := fun m p => p.1 ≤ N ∧ m = N - p.1 ∧ Inv p.1 p.2) (Q := Q) (by
    rintro n m ⟨i, S⟩ ⟨h1, h2, h3⟩ hk
    rcases Nat.lt_or_ge i N with h | h
    · exact hstep n i S h h3 (fun S' h5 => hk (N - (i + 1)) (i + 1, S') (by omega) ⟨by show i + 1 ≤ N; omega, rfl, h5⟩)
    · have h4 : i = N := by show i = N; simp only at h1; omega
      subst h4
      exact hend n S h3) (N - i) FU (i, S) ⟨hi, rfl, hI⟩ (by unfold FU; omega)
  exact key
theorem all_range {n : Nat} {P : Nat → Bool} : (List.range n).all P = true ↔ ∀ k, k < n → P k = true := by
  rw [List.all_eq_true]
  exact ⟨fun h k hk => h k (List.mem_range.mpr hk), fun h k hk => h k (List.mem_range.mp hk)⟩
theorem allK {ρ : Type} {L : Nat → Nat → ρ} {P : Nat → Bool} {N : Nat} {kt kf : ρ} (hN : N < 900000) (hs : ∀ n k, k < N → L (n + 1) k = if P k = true then L n (k + 1) else kf) (he : ∀ n, L (n + 1) N = kt) : L FU 0 = if (List.range N).all P = true then kt else kf := by
  refine forN (σ := Unit) (L := fun n k _ => L n k) (Inv := fun k _ => ∀ j, j < k → P j = true) (Q := fun r => r = if (List.range N).all P = true then kt else kf) hN ?_ ?_ 0 () (Nat.zero_le _) (fun j hj => absurd hj (Nat.not_lt_zero _))
  · rintro n i _ hi h1 ih
    show L (n + 1) i = _
    rw [hs n i hi]
    by_cases c : P i = true
    · rw [if_pos c]
      refine ih () (fun j hj => ?_)
      by_cases e : j = i
      · rw [e]; exact c
      · exact h1 j (by omega)
    · rw [if_neg c, if_neg (fun z => c (all_range.mp z i hi))]
  · rintro n _ h1
    show L (n + 1) N = _
    rw [he n, if_pos (all_range.mpr h1)]
theorem fstK {ρ : Type} {L : Nat → Nat → ρ} {P : Nat → Bool} {a N : Nat} {kf : Nat → ρ} {kn : ρ} (ha : a ≤ N) (hN : N < 900000) (hs : ∀ n t, a ≤ t → t < N → L (n + 1) t = if P t = true then kf t else L n (t + 1)) (he : ∀ n, L (n + 1) N = kn) : (∃ t, a ≤ t ∧ t < N ∧ P t = true ∧ (∀ j, a ≤ j → j < t → P j = false) ∧ L FU a = kf t) ∨ ((∀ j, a ≤ j → j < N → P j = false) ∧ L FU a = kn) := by
  refine forN (σ := Unit) (L := fun n k _ => L n k) (Inv := fun k _ => a ≤ k ∧ ∀ j, a ≤ j → j < k → P j = false) (Q := fun r => (∃ t, a ≤ t ∧ t < N ∧ P t = true ∧ (∀ j, a ≤ j → j < t → P j = false) ∧ r = kf t) ∨ ((∀ j, a ≤ j → j < N → P j = false) ∧ r = kn)) hN ?_ ?_ a () ha ⟨Nat.le_refl _, fun j h1 h2 => by omega⟩
  · rintro n i _ hi ⟨h0, h1⟩ ih
    show (∃ t, a ≤ t ∧ t < N ∧ P t = true ∧ (∀ j, a ≤ j → j < t → P j = false) ∧ L (n + 1) i = kf t) ∨ ((∀ j, a ≤ j → j < N → P j = false) ∧ L (n + 1) i = kn)
    rw [hs n i h0 hi]
    by_cases c : P i = true
    · rw [if_pos c]
      exact Or.inl ⟨i, h0, hi, c, h1, rfl⟩
    · rw [if_neg c]
      refine ih () ⟨by omega, fun j h2 h3 => ?_⟩
      by_cases e : j = i
      · rw [e]; exact Bool.eq_false_iff.mpr c
      · exact h1 j h2 (by omega)
  · rintro n _ ⟨h0, h1⟩
    refine Or.inr ⟨h1, ?_⟩
    show L (n + 1) N = kn
    exact he n
def wdv (V : Sto) (s k : Nat) : Int32 := V 14 ((V 19 s).toNatClampNeg + k)
def sW (V : Sto) (s t : Nat) : Bool := (List.range ((V 17 s).toNatClampNeg / 4)).all (fun k => decide (wdv V s k = wdv V t k))
def rl (V : Sto) (s k : Nat) : Nat := (Rl V ((V 4 0).toNatClampNeg) s).getD k 0
def ln (V : Sto) (s : Nat) : Nat := (Rl V ((V 4 0).toNatClampNeg) s).length
def sR (V T : Sto) (r q : Nat) : Bool := decide (V 28 r = V 28 q) && (decide (V 29 r = V 29 q) && (decide (V 31 r = V 31 q) && (decide (T 40 (dY V r) = T 40 (dY V q)) && decide (T 42 (dY V r) = T 42 (dY V q)))))
def lkR (V T : Sto) (s t : Nat) : Bool := decide (ln V s = ln V t) && (List.range (ln V s)).all (fun k => sR V T (rl V s k) (rl V t k))
def look (V T : Sto) (s t : Nat) : Bool := decide (V 17 s = V 17 t) && (decide (V 18 s = V 18 t) && (sW V s t && lkR V T s t))
def mf (V T : Sto) (s : Nat) : Bool := !decide (T 43 s = 0) && (decide (V 16 s = 0) && decide (V 20 s = 0))
def lm (T : Sto) (y : Nat) : Int32 := if T 40 y = 1 then T 46 ((T 41 y).toNatClampNeg) else T 41 y
def sT (V T : Sto) (s t : Nat) : Bool := (List.range (ln V s)).all (fun k => decide (lm T (dY V (rl V s k)) = lm T (dY V (rl V t k))))
theorem ln_le {V : Sto} (h : WF V) {s : Nat} (hs : s < (V 2 0).toNatClampNeg) : ln V s ≤ (V 4 0).toNatClampNeg := Nat.le_trans (Nat.le_add_left _ _) (show stt V s + (Rl V ((V 4 0).toNatClampNeg) s).length ≤ (V 4 0).toNatClampNeg from stt_le V (s + 1))
theorem rl_lt {V : Sto} {s k : Nat} (hk : k < ln V s) : rl V s k < (V 4 0).toNatClampNeg ∧ sec V (rl V s k) = s := Rl_lt hk
theorem countL {V W : Sto} (h : WF V) (hq : OrdQ V W) {s : Nat} (hs : s < (V 2 0).toNatClampNeg) : f_Re_countOf W (nI s) = some (nI (ln V s), W) := countOf_eq h hq hs
theorem pickL {V W : Sto} (h : WF V) (hq : OrdQ V W) {s k : Nat} (hs : s < (V 2 0).toNatClampNeg) (hk : k < ln V s) : f_Re_pick W (nI s) (nI k) = some (nI (rl V s k), W) := pick_eq h hq hs hk
theorem isSame_eq {V T : Sto} (h : WF V) (hd : Dat V T) {r q : Nat} (hr : r < (V 4 0).toNatClampNeg) (hq : q < (V 4 0).toNatClampNeg) : f_Fo_isSame T (nI r) (nI q) = some (b2 (sR V T r q), T) := by
  have hr1 := h.r1
  have hy1 := h.y1
  obtain ⟨y1, -, y3⟩ := dY_lt h hr
  obtain ⟨z1, -, z3⟩ := dY_lt h hq
  unfold f_Fo_isSame sR
  rw [ib_nI (show r < 600 by omega) (by decide), ib_nI (show q < 600 by omega) (by decide), cI (show r < 2 ^ 31 by omega), cI (show q < 2 ^ 31 by omega), hd 28 rfl, hd 29 rfl, hd 30 rfl, hd 31 rfl, y3, z3, ib_nI (show dY V r < 400 by omega) (by decide), ib_nI (show dY V q < 400 by omega) (by decide), cI (show dY V r < 2 ^ 31 by omega), cI (show dY V q < 2 ^ 31 by omega)]
  simp only [ck_mk]
  by_cases c1 : V 28 r = V 28 q
  · rw [if_pos c1, decide_eq_true c1]
    by_cases c2 : V 29 r = V 29 q
    · rw [if_pos c2, decide_eq_true c2]
      by_cases c3 : V 31 r = V 31 q
      · rw [if_pos c3, decide_eq_true c3]
        by_cases c4 : T 40 (dY V r) = T 40 (dY V q)
        · rw [if_pos c4, decide_eq_true c4]
          by_cases c5 : T 42 (dY V r) = T 42 (dY V q)
          · rw [if_pos c5, decide_eq_true c5]; rfl
          · rw [if_neg c5, decide_eq_false c5]; rfl
        · rw [if_neg c4, decide_eq_false c4]; rfl
      · rw [if_neg c3, decide_eq_false c3]; rfl
    · rw [if_neg c2, decide_eq_false c2]; rfl
  · rw [if_neg c1, decide_eq_false c1]; rfl
theorem hasSameRel_eq {V T : Sto} (h : WF V) (hd : Dat V T) (ho : OrdQ V T) {s t : Nat} (hs : s < (V 2 0).toNatClampNeg) (ht : t < (V 2 0).toNatClampNeg) : f_Fo_hasSameRelocations T (nI s) (nI t) = some (b2 (lkR V T s t), T) := by
  have hr1 := h.r1
  have l1 := ln_le h hs
  have l2 := ln_le h ht
  unfold f_Fo_hasSameRelocations lkR
  rw [countL h ho hs, cl_mk, countL h ho ht, cl_mk]
  by_cases c : ln V s = ln V t
  · rw [decide_eq_true c, Bool.true_and]
    rw [if_pos (by rw [c])]
    have key := allK (L := fun n k => lp_Fo_hasSameRelocations_23 (nI s) (nI t) (fun V7 => some (0, V7)) (fun V8 => some (1, V8)) n (nI k) T) (P := fun k => sR V T (rl V s k) (rl V t k)) (N := ln V s) (kt := some (1, T)) (kf := some (0, T)) (by omega) (by
      intro n k hk
      show lp_Fo_hasSameRelocations_23 (nI s) (nI t) (fun V7 => some (0, V7)) (fun V8 => some (1, V8)) (n + 1) (nI k) T = if sR V T (rl V s k) (rl V t k) = true then lp_Fo_hasSameRelocations_23 (nI s) (nI t) (fun V7 => some (0, V7)) (fun V8 => some (1, V8)) n (nI (k + 1)) T else some (0, T)
      have hk2 : k < ln V t := by omega
      rw [lp_Fo_hasSameRelocations_23, countL h ho hs, cl_mk, if_neg (nI_ge hk (by omega)), pickL h ho hs hk, cl_mk, pickL h ho ht hk2, cl_mk, nI1]
      rw [isSame_eq h hd (rl_lt hk).1 (rl_lt hk2).1, cl_mk]
      cases sR V T (rl V s k) (rl V t k) with
      | true => rw [if_neg b2t, if_pos rfl]
      | false => rw [if_pos b2f, if_neg (by decide)]) (by
      intro n
      show lp_Fo_hasSameRelocations_23 (nI s) (nI t) (fun V7 => some (0, V7)) (fun V8 => some (1, V8)) (n + 1) (nI (ln V s)) T = some (1, T)
      rw [lp_Fo_hasSameRelocations_23, countL h ho hs, cl_mk, if_pos (nI_le (Nat.le_refl _) (by omega))])
    refine Eq.trans key ?_
    cases (List.range (ln V s)).all (fun k => sR V T (rl V s k) (rl V t k)) <;> rfl
  · rw [decide_eq_false c, Bool.false_and]
    rw [if_neg (fun z => c ((nI_eq (show ln V s < 2 ^ 31 by omega) (show ln V t < 2 ^ 31 by omega)).mp z))]
    rfl
theorem readC_eq {V T : Sto} (h : WF V) (hd : Dat V T) {s k : Nat} (hs : s < (V 2 0).toNatClampNeg) (hz : ¬ V 16 s = 2) (hk : k < (V 17 s).toNatClampNeg / 4) : f_Se_read T (nI s) (nI (4 * k)) = some (wdv V s k, T) := by
  have hs1 := h.s1
  have hl := h.l1
  have ht := h.t1
  have hsz := ib_lt (h.sz s hs).1
  obtain ⟨f1, f2⟩ := h.fw s hs
  have f3 := f2 hz
  unfold f_Se_read wdv
  have e1 : V 19 s + nI (4 * k) / 4 = nI ((V 19 s).toNatClampNeg + k) := by
    rw [wix_eq h hs (ib_nI (by omega) (by decide)), cI (by omega)]
    unfold wix
    rw [Nat.mul_div_cancel_left k (by decide)]
  rw [ib_nI (show s < 96 by omega) (by decide), ck_mk, cI (show s < 2 ^ 31 by omega), hd 19 rfl, e1, hd 1000 rfl, ib_nI (by omega) (by omega), ck_mk, cI (by omega), hd 14 rfl]
theorem hasSameW_eq {V T : Sto} (h : WF V) (hd : Dat V T) {s t : Nat} (hs : s < (V 2 0).toNatClampNeg) (ht : t < (V 2 0).toNatClampNeg) (hzs : ¬ V 16 s = 2) (hzt : ¬ V 16 t = 2) (he : V 17 s = V 17 t) : f_Fo_hasSameWords T (nI s) (nI t) = some (b2 (sW V s t), T) := by
  have hs1 := h.s1
  have hsz := ib_lt (h.sz s hs).1
  have h4 := (h.sz s hs).2
  have ez := ib_eq (h.sz s hs).1
  unfold f_Fo_hasSameWords
  have key := allK (L := fun n k => lp_Fo_hasSameWords_2 (nI s) (nI t) (fun V3 => some (0, V3)) (fun V4 => some (1, V4)) n (nI (4 * k)) T) (P := fun k => decide (wdv V s k = wdv V t k)) (N := (V 17 s).toNatClampNeg / 4) (kt := some (1, T)) (kf := some (0, T)) (by omega) (by
    intro n k hk
    show lp_Fo_hasSameWords_2 (nI s) (nI t) (fun V3 => some (0, V3)) (fun V4 => some (1, V4)) (n + 1) (nI (4 * k)) T = if decide (wdv V s k = wdv V t k) = true then lp_Fo_hasSameWords_2 (nI s) (nI t) (fun V3 => some (0, V3)) (fun V4 => some (1, V4)) n (nI (4 * (k + 1))) T else some (0, T)
    rw [lp_Fo_hasSameWords_2, ib_nI (show s < 96 by omega) (by decide), ck_mk, cI (show s < 2 ^ 31 by omega), hd 17 rfl, ez, if_neg (nI_ge (by omega) (by omega)), readC_eq h hd hs hzs hk, cl_mk, readC_eq h hd ht hzt (by rw [← he]; exact hk), cl_mk]
    have e4 : nI (4 * k) + 4 = nI (4 * (k + 1)) := by
      show nI (4 * k) + nI 4 = _
      rw [nI_add]
      rfl
    rw [e4]
    by_cases c : wdv V s k = wdv V t k
    · rw [if_pos c, if_pos (decide_eq_true c)]
    · rw [if_neg c, if_neg (by rw [decide_eq_false c]; decide)]) (by
    intro n
    show lp_Fo_hasSameWords_2 (nI s) (nI t) (fun V3 => some (0, V3)) (fun V4 => some (1, V4)) (n + 1) (nI (4 * ((V 17 s).toNatClampNeg / 4))) T = some (1, T)
    rw [lp_Fo_hasSameWords_2, ib_nI (show s < 96 by omega) (by decide), ck_mk, cI (show s < 2 ^ 31 by omega), hd 17 rfl, if_pos (by rw [ez, cI (by omega)]; exact nI_le (by omega) (by omega))])
  refine Eq.trans key ?_
  unfold sW
  cases (List.range ((V 17 s).toNatClampNeg / 4)).all (fun k => decide (wdv V s k = wdv V t k)) <;> rfl
theorem looks_eq {V T : Sto} (h : WF V) (hd : Dat V T) (ho : OrdQ V T) {s t : Nat} (hs : s < (V 2 0).toNatClampNeg) (ht : t < (V 2 0).toNatClampNeg) (hzs : ¬ V 16 s = 2) (hzt : ¬ V 16 t = 2) : f_Fo_looksSame T (nI s) (nI t) = some (b2 (look V T s t), T) := by
  have hs1 := h.s1
  unfold f_Fo_looksSame look
  rw [ib_nI (show s < 96 by omega) (by decide), ib_nI (show t < 96 by omega) (by decide), cI (show s < 2 ^ 31 by omega), cI (show t < 2 ^ 31 by omega), hd 17 rfl, hd 18 rfl]
  simp only [ck_mk]
  by_cases c1 : V 17 s = V 17 t
  · rw [if_pos c1, decide_eq_true c1]
    by_cases c2 : V 18 s = V 18 t
    · rw [if_pos c2, decide_eq_true c2, hasSameW_eq h hd hs ht hzs hzt c1, cl_mk]
      cases sW V s t with
      | false => rw [if_pos b2f]; rfl
      | true =>
        rw [if_neg b2t, hasSameRel_eq h hd ho hs ht, cl_mk]
        cases lkR V T s t with
        | false => rw [if_pos b2f]; rfl
        | true => rw [if_neg b2t]; rfl
    · rw [if_neg c2, decide_eq_false c2]; rfl
  · rw [if_neg c1, decide_eq_false c1]; rfl
theorem mayFold_eq {V T : Sto} (h : WF V) (hd : Dat V T) {s : Nat} (hs : s < (V 2 0).toNatClampNeg) : f_Fo_mayFold T (nI s) = some (b2 (mf V T s), T) := by
  have hs1 := h.s1
  unfold f_Fo_mayFold mf
  rw [ib_nI (show s < 96 by omega) (by decide), cI (show s < 2 ^ 31 by omega), hd 16 rfl, hd 20 rfl]
  simp only [ck_mk]
  by_cases c1 : T 43 s = 0
  · rw [if_pos c1, decide_eq_true c1]; rfl
  · rw [if_neg c1, decide_eq_false c1]
    by_cases c2 : V 16 s = 0
    · rw [if_pos c2, decide_eq_true c2]
      by_cases c3 : V 20 s = 0
      · rw [if_pos c3, decide_eq_true c3]; rfl
      · rw [if_neg c3, decide_eq_false c3]; rfl
    · rw [if_neg c2, decide_eq_false c2]; rfl
theorem mf_text {V T : Sto} {s : Nat} (h : mf V T s = true) : V 16 s = 0 ∧ ¬ V 16 s = 2 ∧ ¬ T 43 s = 0 ∧ V 20 s = 0 := by
  unfold mf at h
  simp at h
  exact ⟨h.2.1, by rw [h.2.1]; decide, h.1, h.2.2⟩
theorem leadOf_eq {V T : Sto} {y : Nat} (hy : y < 400) (hw : T 40 y = 1 → ib (T 41 y) 96 = true) : f_Fo_leaderOfMeant T (nI y) = some (lm T y, T) := by
  unfold f_Fo_leaderOfMeant lm
  rw [ib_nI hy (by decide), cI (by omega)]
  simp only [ck_mk]
  by_cases c : T 40 y = 1
  · rw [if_pos c, if_pos c, hw c, ck_mk]
  · rw [if_neg c, if_neg c]
