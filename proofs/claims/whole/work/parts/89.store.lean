/-! the row of words: it grows, and is zeroed anew. -/
theorem fill14_eq {V : Sto} {a b : Nat} (hab : a ≤ b) (hb : b ≤ (V 1000 14).toNatClampNeg) (hl : (V 1000 14).toNatClampNeg ≤ 100000) : ∃ W, f_fillr14 V (nI a) (nI b) 0 = some (0, W) ∧ (∀ q, q ≠ 14 → W q = V q) ∧ ∀ j, W 14 j = if a ≤ j ∧ j < b then 0 else V 14 j := by
  have hle : nI a ≤ nI b := nI_le hab (by omega)
  have h0 : (0 : Int32) ≤ nI a := nI_pos' (by omega)
  have hbl : nI b ≤ nI ((V 1000 14).toNatClampNeg) := nI_le hb (by omega)
  unfold f_fillr14 f_rangeCheck
  rw [if_pos hle, if_pos h0, if_pos hbl, cl_mk]
  have key := forQ (L := lp_fillr14_10 (nI b) 0 (fun V3 => some (0, V3))) (N := b) (Inv := fun i S => a ≤ i ∧ (∀ q, q ≠ 14 → S q = V q) ∧ ∀ j, S 14 j = if a ≤ j ∧ j < i then 0 else V 14 j) (Q := fun r => ∃ W, r = some (0, W) ∧ (∀ q, q ≠ 14 → W q = V q) ∧ ∀ j, W 14 j = if a ≤ j ∧ j < b then 0 else V 14 j) (by omega) (by
    rintro m i S hi ⟨hai, hq, h14⟩
    rw [lp_fillr14_10, if_neg (nI_ge hi (by omega)), hq 1000 (by decide), ib_nI (by omega) (by omega), ck_mk, nm_mk, cI (by omega), nI1]
    refine Or.inr ⟨_, rfl, by omega, fun q hq2 => by rw [sw_ne hq2]; exact hq q hq2, fun j => ?_⟩
    rw [sw_at]
    by_cases e : j = i
    · rw [if_pos e, if_pos ⟨by omega, by omega⟩]
    · rw [if_neg e, h14]
      by_cases c : a ≤ j ∧ j < i
      · rw [if_pos c, if_pos ⟨c.1, by omega⟩]
      · rw [if_neg c, if_neg (fun z => c ⟨z.1, by omega⟩)]) (by
    rintro m S ⟨hai, hq, h14⟩
    rw [lp_fillr14_10, if_pos (nI_le (Nat.le_refl _) (by omega))]
    exact ⟨S, rfl, hq, h14⟩) a V hab ⟨Nat.le_refl _, fun q _ => rfl, fun j => by rw [if_neg (by omega)]⟩
  exact key
def StoP (V W : Sto) (m : Nat) : Prop :=
  (∀ q, q ≠ 14 → q ≠ 2 → q ≠ 1000 → W q = V q) ∧
  (W 2 0 = V 2 0) ∧
  (W 2 1 = V 2 1) ∧
  (W 2 2 = nI ((V 2 2).toNatClampNeg + m)) ∧
  (∀ j, j < (V 2 2).toNatClampNeg → W 14 j = V 14 j) ∧
  (∀ j, (V 2 2).toNatClampNeg ≤ j → j < (V 2 2).toNatClampNeg + m → W 14 j = 0) ∧
  (W 1000 14 = nI ((W 1000 14).toNatClampNeg)) ∧
  ((V 2 2).toNatClampNeg + m ≤ (W 1000 14).toNatClampNeg) ∧
  (1024 ≤ (W 1000 14).toNatClampNeg ∧ (W 1000 14).toNatClampNeg ≤ 100000) ∧
  (gs V (nI m) + phi V ≤ phi W)
theorem StoP.o {V W : Sto} {m : Nat} (h : StoP V W m) : ∀ q, q ≠ 14 → q ≠ 2 → q ≠ 1000 → W q = V q := h.1
theorem StoP.c0 {V W : Sto} {m : Nat} (h : StoP V W m) : W 2 0 = V 2 0 := h.2.1
theorem StoP.c1 {V W : Sto} {m : Nat} (h : StoP V W m) : W 2 1 = V 2 1 := h.2.2.1
theorem StoP.c2 {V W : Sto} {m : Nat} (h : StoP V W m) : W 2 2 = nI ((V 2 2).toNatClampNeg + m) := h.2.2.2.1
theorem StoP.w0 {V W : Sto} {m : Nat} (h : StoP V W m) : ∀ j, j < (V 2 2).toNatClampNeg → W 14 j = V 14 j := h.2.2.2.2.1
theorem StoP.w1 {V W : Sto} {m : Nat} (h : StoP V W m) : ∀ j, (V 2 2).toNatClampNeg ≤ j → j < (V 2 2).toNatClampNeg + m → W 14 j = 0 := h.2.2.2.2.2.1
theorem StoP.l0 {V W : Sto} {m : Nat} (h : StoP V W m) : W 1000 14 = nI ((W 1000 14).toNatClampNeg) := h.2.2.2.2.2.2.1
theorem StoP.l1 {V W : Sto} {m : Nat} (h : StoP V W m) : (V 2 2).toNatClampNeg + m ≤ (W 1000 14).toNatClampNeg := h.2.2.2.2.2.2.2.1
theorem StoP.l2 {V W : Sto} {m : Nat} (h : StoP V W m) : 1024 ≤ (W 1000 14).toNatClampNeg ∧ (W 1000 14).toNatClampNeg ≤ 100000 := h.2.2.2.2.2.2.2.2.1
theorem StoP.ph {V W : Sto} {m : Nat} (h : StoP V W m) : gs V (nI m) + phi V ≤ phi W := h.2.2.2.2.2.2.2.2.2
theorem tail_eq {V : Sto} {b : Nat} (h2 : V 2 2 = nI ((V 2 2).toNatClampNeg)) (hab : (V 2 2).toNatClampNeg ≤ b) (hb : b ≤ (V 1000 14).toNatClampNeg) (hl : (V 1000 14).toNatClampNeg ≤ 100000) : ∃ W, g_Se_tail V (nI b) = some (0, W) ∧ (∀ q, q ≠ 14 → q ≠ 2 → W q = V q) ∧ W 2 0 = V 2 0 ∧ W 2 1 = V 2 1 ∧ W 2 2 = nI b ∧ ∀ j, W 14 j = if (V 2 2).toNatClampNeg ≤ j ∧ j < b then 0 else V 14 j := by
  obtain ⟨W, h1, h3, h4⟩ := fill14_eq hab hb hl
  rw [← h2] at h1
  unfold g_Se_tail
  rw [h1, cl_mk, nm_mk]
  have e2 : W 2 = V 2 := h3 2 (by decide)
  refine ⟨_, rfl, fun q hq hq2 => by rw [sw_ne hq2]; exact h3 q hq, ?_, ?_, ?_, fun j => by rw [sw_ne (by decide)]; exact h4 j⟩
  · rw [sw_at, if_neg (by decide), e2]
  · rw [sw_at, if_neg (by decide), e2]
  · rw [sw_at, if_pos rfl]
theorem store_eq {V : Sto} {m : Nat} (h2 : V 2 2 = nI ((V 2 2).toNatClampNeg)) (hL : V 1000 14 = nI ((V 1000 14).toNatClampNeg)) (hl : 1024 ≤ (V 1000 14).toNatClampNeg ∧ (V 1000 14).toNatClampNeg ≤ 100000) (hm : (V 2 2).toNatClampNeg + m ≤ 100000) (hst : (V 2 2).toNatClampNeg ≤ (V 1000 14).toNatClampNeg) : ∃ W, f_Se_store V (nI m) = some (0, W) ∧ StoP V W m := by
  have hs : V 2 2 + nI m = nI ((V 2 2).toNatClampNeg + m) := by
    have e := nI_add ((V 2 2).toNatClampNeg) m
    rw [← h2] at e
    exact e
  have hg : glen V = nI ((V 1000 14).toNatClampNeg) := rfl
  unfold f_Se_store
  by_cases hc : (V 2 2).toNatClampNeg + m ≤ (V 1000 14).toNatClampNeg
  · have hle : V 2 2 + nI m ≤ glen V := by rw [hs, hg]; exact nI_le hc (by omega)
    rw [if_pos hle, hs]
    obtain ⟨W, w1, w2, w3, w4, w5, w6⟩ := tail_eq h2 (Nat.le_add_right _ m) hc hl.2
    have e1000 : W 1000 = V 1000 := w2 1000 (by decide) (by decide)
    refine ⟨W, w1, fun q a b _ => w2 q a b, w3, w4, w5, fun j hj => ?_, fun j h1 h3 => ?_, ?_, ?_, ?_, ?_⟩
    · rw [w6, if_neg (by omega)]
    · rw [w6, if_pos ⟨h1, h3⟩]
    · rw [e1000]; exact hL
    · rw [e1000]; exact hc
    · rw [e1000]; exact hl
    · have : gs V (nI m) = 0 := if_pos hle
      rw [this, Nat.zero_add, phi_eq e1000]
      exact Nat.le_refl _
  · have hle : ¬ V 2 2 + nI m ≤ glen V := by rw [hs, hg]; exact nI_ge (by omega) (by omega)
    have h2g : 2 * glen V = nI (2 * (V 1000 14).toNatClampNeg) := by
      rw [hg]
      refine eqI ?_
      have e2 : (2 : Int32).toInt = 2 := by decide
      have en := nI_toInt (n := (V 1000 14).toNatClampNeg) (by omega)
      rw [mulI (by rw [e2, en]; omega) (by rw [e2, en]; omega), e2, en, nI_toInt (by omega)]
      omega
    have hroom : (if 100000 < 2 * glen V then (100000 : Int32) else 2 * glen V) = nI (min (2 * (V 1000 14).toNatClampNeg) 100000) := by
      rw [h2g]
      by_cases c : 100000 < 2 * (V 1000 14).toNatClampNeg
      · rw [if_pos (show (100000 : Int32) < nI (2 * (V 1000 14).toNatClampNeg) from nI_lt c (by omega)), Nat.min_eq_right (by omega)]
        rfl
      · rw [if_neg (show ¬ (100000 : Int32) < nI (2 * (V 1000 14).toNatClampNeg) from nI_nlt (a := 100000) (by omega) (by decide)), Nat.min_eq_left (by omega)]
    have hnew : gnew V (nI m) = nI (max ((V 2 2).toNatClampNeg + m) (min (2 * (V 1000 14).toNatClampNeg) 100000)) := by
      unfold gnew
      rw [hroom, hs]
      by_cases c : (V 2 2).toNatClampNeg + m < min (2 * (V 1000 14).toNatClampNeg) 100000
      · rw [if_pos (nI_lt c (by omega)), Nat.max_eq_right (by omega)]
      · rw [if_neg (nI_nlt (by omega) (by omega)), Nat.max_eq_left (by omega)]
    have hN : (gnew V (nI m)).toNatClampNeg = max ((V 2 2).toNatClampNeg + m) (min (2 * (V 1000 14).toNatClampNeg) 100000) := by rw [hnew, nI_clamp (by omega)]
    have hok : gok V (gnew V (nI m)) = true := by
      unfold gok
      simp only [Bool.and_eq_true, decide_eq_true_eq]
      rw [hN]
      exact ⟨hnew, by omega, by omega⟩
    rw [if_neg hle, hok, ck_mk, hs]
    have g2 : grow V ((gnew V (nI m)).toNatClampNeg) 2 = V 2 := by
      funext j
      simp [grow]
    have g1000 : grow V ((gnew V (nI m)).toNatClampNeg) 1000 14 = nI (max ((V 2 2).toNatClampNeg + m) (min (2 * (V 1000 14).toNatClampNeg) 100000)) := by
      simp only [grow]
      rw [hN]
      simp [upd]
    have gl : (grow V ((gnew V (nI m)).toNatClampNeg) 1000 14).toNatClampNeg = max ((V 2 2).toNatClampNeg + m) (min (2 * (V 1000 14).toNatClampNeg) 100000) := by rw [g1000, nI_clamp (by omega)]
    obtain ⟨W, w1, w2, w3, w4, w5, w6⟩ := tail_eq (V := grow V ((gnew V (nI m)).toNatClampNeg)) (b := (V 2 2).toNatClampNeg + m) (by rw [g2]; exact h2) (by rw [g2]; omega) (by rw [gl]; omega) (by rw [gl]; omega)
    rw [g2] at w3 w4 w6
    have eW : W 1000 = grow V ((gnew V (nI m)).toNatClampNeg) 1000 := w2 1000 (by decide) (by decide)
    have eL : (W 1000 14).toNatClampNeg = max ((V 2 2).toNatClampNeg + m) (min (2 * (V 1000 14).toNatClampNeg) 100000) := by rw [eW, gl]
    refine ⟨W, w1, fun q a b c => ?_, w3, w4, w5, fun j hj => ?_, fun j h1 h3 => ?_, ?_, ?_, ?_, ?_⟩
    · rw [w2 q a b]
      funext j
      simp [grow, a, c]
    · rw [w6, if_neg (by omega)]
      have : (V 2 2).toNatClampNeg ≤ (V 1000 14).toNatClampNeg := hst
      simp only [grow, if_true, va_cpy]
      rw [if_pos ⟨by omega, by omega⟩]
      congr 1
      omega
    · rw [w6, if_pos ⟨h1, h3⟩]
    · rw [eW, gl]; exact g1000
    · rw [eL]; omega
    · rw [eL]; omega
    · have e1 : gs V (nI m) = (gnew V (nI m)).toNatClampNeg := if_neg hle
      rw [e1, hN]
      unfold phi
      rw [eL]
      split
      · split <;> omega
      · split <;> omega
