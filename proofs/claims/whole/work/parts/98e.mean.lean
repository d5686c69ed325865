/-! What a symbol means: the reference's answers beside the class's rows. -/
def MC (W M : Sto) (y : Nat) : Prop :=
  (f_Mo_isCommon M (nI y) = some (b2 (decide (W 40 y = 3)), M)) ∧
  (f_Mo_sortOf M (nI y) = some (W 40 y, M)) ∧
  (¬ W 40 y = 3 → f_Mo_numberOf M (nI y) = some (W 42 y, M)) ∧
  (f_Mo_sectionOf M (nI y) = some (if W 40 y = 1 then W 41 y else -1, M))
theorem MC.co {W M : Sto} {y : Nat} (h : MC W M y) : f_Mo_isCommon M (nI y) = some (b2 (decide (W 40 y = 3)), M) := h.1
theorem MC.so {W M : Sto} {y : Nat} (h : MC W M y) : f_Mo_sortOf M (nI y) = some (W 40 y, M) := h.2.1
theorem MC.no {W M : Sto} {y : Nat} (h : MC W M y) : ¬ W 40 y = 3 → f_Mo_numberOf M (nI y) = some (W 42 y, M) := h.2.2.1
theorem MC.se {W M : Sto} {y : Nat} (h : MC W M y) : f_Mo_sectionOf M (nI y) = some (if W 40 y = 1 then W 41 y else -1, M) := h.2.2.2
def MF (V : Sto) (A : Nat → Bool) (W : Sto) (y : Nat) : Prop :=
  (W 40 y = 0 ∧ W 41 y = -1 ∧ W 42 y = 0) ∨ (W 40 y = 1 ∧ ib (W 41 y) ((V 2 0).toNatClampNeg) = true ∧ A ((V 15 ((W 41 y).toNatClampNeg)).toNatClampNeg) = true) ∨ (W 40 y = 2 ∧ W 41 y = -1) ∨ (W 40 y = 3 ∧ W 41 y = V 22 y ∧ W 42 y = 0 ∧ icm W (dN V y) = true)
theorem mean_eq {V W M : Sto} (h : WF V) {A : Nat → Bool} (hN : NS V A W) (hM : NM V W M) (hr : RelD V M) {y : Nat} (hy : y < (V 3 0).toNatClampNeg) (hA : A (dU V y) = true) : MC W M y ∧ MF V A W y := by
  have hy1 := h.y1
  have hn := h.yn y hy
  have hnl : dN V y < 200 := ib_lt hn
  have ibn : ib (V 22 y) 200 = true := hn
  -- by a definition
  have byD : ∀ d, d < (V 3 0).toNatClampNeg → (V 24 d = 1 ∨ V 24 d = 2) → ¬ V 23 d = 3 → A (dU V d) = true → W 40 y = V 24 d → W 41 y = V 25 d → W 42 y = V 26 d → f_Mo_isCommon M (nI y) = some (0, M) → f_Mo_itself M (nI y) = some (nI d, M) → MC W M y ∧ MF V A W y := by
    intro d hd hf hb hAd w1 w2 w3 hc hi
    have hne : ¬ nI d = -1 := m1_ne d (by omega)
    have e10 : M 10 d = 0 ↔ V 24 d = 1 := by rw [hr.yf d hd]; exact srt0
    have h3 : ¬ W 40 y = 3 := by rw [w1]; rcases hf with e | e <;> rw [e] <;> decide
    have hs : f_Mo_sortOf M (nI y) = some (W 40 y, M) := by
      unfold f_Mo_sortOf
      rw [hc, cl_mk, if_pos rfl, hi, cl_mk, if_neg hne, ib_nI (show d < 400 by omega) (by decide), ck_mk, cI (by omega), w1]
      rcases hf with e | e
      · rw [if_pos (e10.mpr e), e]
      · rw [if_neg (fun z => by have := e10.mp z; rw [e] at this; exact absurd this (by decide)), e]
    refine ⟨⟨?_, hs, fun _ => ?_, ?_⟩, ?_⟩
    · rw [hc, decide_eq_false h3]; rfl
    · unfold f_Mo_numberOf
      rw [hi, cl_mk, if_neg hne, ib_nI (show d < 400 by omega) (by decide), ck_mk, cI (by omega), hr.yv, w3]
    · unfold f_Mo_sectionOf
      rw [hs, cl_mk, hi, cl_mk, ib_nI (show d < 400 by omega) (by decide), ck_mk, cI (by omega), hr.ys, w2]
      by_cases c : W 40 y = 1
      · rw [if_pos c, if_pos c]
      · rw [if_neg c, if_neg c]
    · rcases h.yf d hd with ⟨e, -⟩ | ⟨e, -, e2, e3⟩ | ⟨e, -, e2⟩ | ⟨e, e2, -⟩
      · rcases hf with f | f <;> rw [e] at f <;> exact absurd f (by decide)
      · refine Or.inr (Or.inl ⟨by rw [w1, e], by rw [w2]; exact e2, ?_⟩)
        rw [w2, e3]
        exact hAd
      · exact Or.inr (Or.inr (Or.inl ⟨by rw [w1, e], by rw [w2, e2]⟩))
      · exact absurd e2 hb
  have w1 := hN.m y hy
  have w2 := hN.w y hy
  have w3 := hN.v y hy
  unfold mng at w1 w2 w3
  rw [if_neg (by rw [hA]; decide)] at w1 w2 w3
  by_cases c1 : V 23 y = 0
  · rw [if_pos c1] at w1 w2 w3
    have hf : V 24 y = 1 ∨ V 24 y = 2 := by
      rcases h.yf y hy with ⟨-, e | e, -⟩ | ⟨e, -⟩ | ⟨e, -⟩ | ⟨-, e, -⟩
      · rw [c1] at e; exact absurd e (by decide)
      · rw [c1] at e; exact absurd e (by decide)
      · exact Or.inl e
      · exact Or.inr e
      · rw [c1] at e; exact absurd e (by decide)
    refine byD y hy hf (by rw [c1]; decide) hA w1 w2 w3 ?_ ?_
    · unfold f_Mo_isCommon
      rw [ib_nI (show y < 400 by omega) (by decide), ck_mk, cI (by omega), hr.yb, if_pos c1]
    · unfold f_Mo_itself
      rw [ib_nI (show y < 400 by omega) (by decide), ck_mk, cI (by omega), hr.yb, if_pos c1]
  · rw [if_neg c1] at w1 w2 w3
    have hi : f_Mo_itself M (nI y) = some (dfr W (dN V y), M) := by
      unfold f_Mo_itself
      rw [ib_nI (show y < 400 by omega) (by decide), ck_mk, cI (by omega), hr.yb, if_neg c1, hr.yn, ibn, ck_mk, ck_mk]
      rw [show M 21 (V 22 y).toNatClampNeg = dfr W (dN V y) from hM.d _ hnl]
    have hc : f_Mo_isCommon M (nI y) = some (b2 (icm W (dN V y)), M) := by
      unfold f_Mo_isCommon
      rw [ib_nI (show y < 400 by omega) (by decide), ck_mk, cI (by omega), hr.yb, if_neg c1, hr.yn, ibn, ck_mk, ck_mk]
      rw [show M 22 (V 22 y).toNatClampNeg = (if W 37 (dN V y) = -1 then W 39 (dN V y) else 0) from hM.c _ hnl]
      unfold icm
      by_cases d1 : W 37 (dN V y) = -1
      · rw [if_pos d1, decide_eq_true d1]
        by_cases d2 : W 39 (dN V y) ≤ 0
        · rw [if_pos d2, decide_eq_true d2]; rfl
        · rw [if_neg d2, decide_eq_false d2]; rfl
      · rw [if_neg d1, decide_eq_false d1, if_pos (by decide)]; rfl
    cases hic : icm W (dN V y) with
    | true =>
      rw [hic] at hc w1 w2 w3
      rw [if_pos rfl] at w1 w2 w3
      have w1' : W 40 y = 3 := w1
      have hs : f_Mo_sortOf M (nI y) = some (W 40 y, M) := by
        unfold f_Mo_sortOf
        rw [hc, cl_mk, if_neg b2t, w1']
      refine ⟨⟨?_, hs, fun z => absurd w1' z, ?_⟩, Or.inr (Or.inr (Or.inr ⟨w1', w2, w3, hic⟩))⟩
      · rw [hc, decide_eq_true w1']
      · unfold f_Mo_sectionOf
        rw [hs, cl_mk, w1', if_neg (by decide), if_neg (by decide)]
    | false =>
      rw [hic] at hc w1 w2 w3
      rw [if_neg (show ¬ false = true by decide)] at w1 w2 w3
      rcases hN.n.dfrO (by omega) hnl with e | ⟨d, e1, e2, e3⟩
      · rw [if_pos e] at w1 w2 w3
        rw [e] at hi
        by_cases c2 : V 23 y = 2
        · rw [if_pos c2] at w1 w2 w3
          have w1' : W 40 y = 2 := w1
          have hs : f_Mo_sortOf M (nI y) = some (W 40 y, M) := by
            unfold f_Mo_sortOf
            rw [hc, cl_mk, if_pos b2f, hi, cl_mk, if_pos rfl, ib_nI (show y < 400 by omega) (by decide), ck_mk, cI (by omega), hr.yb, if_pos c2, w1']
          refine ⟨⟨?_, hs, fun _ => ?_, ?_⟩, Or.inr (Or.inr (Or.inl ⟨w1', w2⟩))⟩
          · rw [hc, decide_eq_false (by rw [w1']; decide)]
          · unfold f_Mo_numberOf
            rw [hi, cl_mk, if_pos rfl, w3]
          · unfold f_Mo_sectionOf
            rw [hs, cl_mk, w1', if_neg (by decide), if_neg (by decide)]
        · rw [if_neg c2] at w1 w2 w3
          have w1' : W 40 y = 0 := w1
          have hs : f_Mo_sortOf M (nI y) = some (W 40 y, M) := by
            unfold f_Mo_sortOf
            rw [hc, cl_mk, if_pos b2f, hi, cl_mk, if_pos rfl, ib_nI (show y < 400 by omega) (by decide), ck_mk, cI (by omega), hr.yb, if_neg c2, w1']
          refine ⟨⟨?_, hs, fun _ => ?_, ?_⟩, Or.inl ⟨w1', w2, w3⟩⟩
          · rw [hc, decide_eq_false (by rw [w1']; decide)]
          · unfold f_Mo_numberOf
            rw [hi, cl_mk, if_pos rfl, w3]
          · unfold f_Mo_sectionOf
            rw [hs, cl_mk, w1', if_neg (by decide), if_neg (by decide)]
      · have hne : ¬ dfr W (dN V y) = -1 := by rw [e2]; exact m1_ne d (by omega)
        rw [if_neg hne, e2, cI (by omega)] at w1 w2 w3
        rw [e2] at hi
        have g : A (dU V d) = true ∧ ¬ V 24 d = 0 ∧ (V 23 d = 1 ∨ V 23 d = 2) := by
          rcases e3 with e3 | e3
          · exact ⟨(gB_iff.mp e3).1, (gB_iff.mp e3).2.1, Or.inl (gB_iff.mp e3).2.2.1⟩
          · exact ⟨(gB_iff.mp e3).1, (gB_iff.mp e3).2.1, Or.inr (gB_iff.mp e3).2.2.1⟩
        have hb3 : ¬ V 23 d = 3 := by rcases g.2.2 with e | e <;> rw [e] <;> decide
        have hf : V 24 d = 1 ∨ V 24 d = 2 := by
          rcases h.yf d e1 with ⟨e, -⟩ | ⟨e, -⟩ | ⟨e, -⟩ | ⟨-, e, -⟩
          · exact absurd e g.2.1
          · exact Or.inl e
          · exact Or.inr e
          · exact absurd e hb3
        exact byD d e1 hf hb3 g.1 w1 w2 w3 hc hi
