/-! symbol and other: names that clash, a symbol that comes. -/
theorem ct_lt (x : Int32) : x.toNatClampNeg < 2 ^ 31 := by
  have := bdI x
  show x.toInt.toNat < _
  omega
theorem le_cnt {x : Int32} {i : Nat} (h : x = nI x.toNatClampNeg) (hi : i < 2 ^ 31) : x ≤ nI i ↔ x.toNatClampNeg ≤ i := by
  have := nI_le_iff (a := x.toNatClampNeg) (b := i) (ct_lt x) hi
  rw [← h] at this
  exact this
theorem cI {i : Nat} (h : i < 2 ^ 31) : (nI i).toNatClampNeg = i := nI_clamp h
theorem any_range {n : Nat} {P : Nat → Bool} : (List.range n).any P = true ↔ ∃ y, y < n ∧ P y = true := by
  rw [List.any_eq_true]
  constructor
  · rintro ⟨y, h1, h2⟩
    exact ⟨y, List.mem_range.mp h1, h2⟩
  · rintro ⟨y, h1, h2⟩
    exact ⟨y, List.mem_range.mpr h1, h2⟩
theorem any_range_f {n : Nat} {P : Nat → Bool} (h : ∀ y, y < n → P y = false) : (List.range n).any P = false := by
  cases hb : (List.range n).any P with
  | false => rfl
  | true =>
    obtain ⟨y, h1, h2⟩ := any_range.mp hb
    rw [h y h1] at h2
    cases h2
/-- a symbol of the unit that has the name, and isn't local -/
def clP (V : Sto) (u n : Int32) (y : Nat) : Bool := decide (V 21 y = u) && (decide (V 22 y = n) && !decide (V 23 y = 0))
def clB (V : Sto) (u n : Int32) : Bool := (List.range ((V 3 0).toNatClampNeg)).any (clP V u n)
theorem clashes_eq {V : Sto} (h : WF V) (u n b : Int32) : f_Sy_clashes V u n b = some (if (!decide (b = 0) && clB V u n) = true then 1 else 0, V) := by
  unfold f_Sy_clashes
  by_cases hb : b = 0
  · rw [if_pos hb]
    simp [hb]
  · rw [if_neg hb]
    have key := forQ (L := lp_Sy_clashes_9 u n (fun V1 => some (1, V1)) (fun V2 => some (0, V2))) (N := (V 3 0).toNatClampNeg) (Inv := fun i S => S = V ∧ ∀ y, y < i → clP V u n y = false) (Q := fun r => r = some (if clB V u n = true then 1 else 0, V)) (by have := h.y1; omega) (by
      rintro m i S hi ⟨rfl, hn⟩
      have hy1 := h.y1
      have hib : ib (nI i) 400 = true := ib_nI (by omega) (by decide)
      have hci := cI (i := i) (by omega)
      rw [lp_Sy_clashes_9]
      rw [if_neg (fun z => by have := (le_cnt h.y0 (by omega)).mp z; omega), hib, ck_mk, hci, nI1]
      by_cases c1 : S 21 i = u
      · rw [if_pos c1, ck_mk]
        by_cases c2 : S 22 i = n
        · rw [if_pos c2, ck_mk]
          by_cases c3 : S 23 i = 0
          · rw [if_pos c3]
            refine Or.inr ⟨S, rfl, rfl, fun y hy => ?_⟩
            by_cases e : y = i
            · subst e; simp [clP, c3]
            · exact hn y (by omega)
          · rw [if_neg c3]
            refine Or.inl ?_
            rw [if_pos (show clB S u n = true from any_range.mpr ⟨i, hi, by simp [clP, c1, c2, c3]⟩)]
        · rw [if_neg c2]
          refine Or.inr ⟨S, rfl, rfl, fun y hy => ?_⟩
          by_cases e : y = i
          · subst e; simp [clP, c2]
          · exact hn y (by omega)
      · rw [if_neg c1]
        refine Or.inr ⟨S, rfl, rfl, fun y hy => ?_⟩
        by_cases e : y = i
        · subst e; simp [clP, c1]
        · exact hn y (by omega)) (by
      rintro m S ⟨rfl, hn⟩
      rw [lp_Sy_clashes_9, if_pos ((le_cnt h.y0 (by have := h.y1; omega)).mpr (Nat.le_refl _)), if_neg]
      unfold clB
      rw [any_range_f hn]
      decide) 0 V (Nat.zero_le _) ⟨rfl, fun y hy => absurd hy (Nat.not_lt_zero _)⟩
    show lp_Sy_clashes_9 u n _ _ FU (nI 0) V = _
    rw [key]
    simp [hb]
theorem hasName_eq {V M : Sto} (h : WF V) (hr : RelD V M) (u n b : Int32) : f_Mo_hasName M u n b = some (if (!decide (b = 0) && clB V u n) = true then 1 else 0, M) := by
  unfold f_Mo_hasName
  have hy1 := h.y1
  have key := forQ (σ := Int32 × Sto) (L := fun m i S => lp_Mo_hasName_6 u n b (fun y1 V1 => ck (bb y1) <| some (y1, V1)) m S.1 i S.2) (N := (V 3 0).toNatClampNeg) (Inv := fun i S => S.2 = M ∧ S.1 = if (!decide (b = 0) && (List.range i).any (clP V u n)) = true then 1 else 0) (Q := fun r => r = some (if (!decide (b = 0) && clB V u n) = true then 1 else 0, M)) (by omega) (by
    rintro m i ⟨x, S⟩ hi ⟨hS, hx⟩
    simp only at hS hx
    subst hS
    have hib : ib (nI i) 400 = true := ib_nI (by omega) (by decide)
    have hci := cI (i := i) (by omega)
    have hsucc : (List.range (i + 1)).any (clP V u n) = ((List.range i).any (clP V u n) || clP V u n i) := by
      rw [List.range_succ, List.any_append]
      simp
    refine Or.inr ⟨(if (!decide (b = 0) && (List.range (i + 1)).any (clP V u n)) = true then 1 else 0, S), ?_, rfl, rfl⟩
    show lp_Mo_hasName_6 u n b _ (m + 1) x (nI i) S = lp_Mo_hasName_6 u n b _ m (if (!decide (b = 0) && (List.range (i + 1)).any (clP V u n)) = true then 1 else 0) (nI (i + 1)) S
    rw [lp_Mo_hasName_6]
    rw [if_neg (fun z => by rw [hr.y0] at z; have := (le_cnt h.y0 (by omega)).mp z; omega), hci, nI1, hsucc, hr.yu, hr.yn, hr.yb]
    by_cases hx0 : (!decide (b = 0) && (List.range i).any (clP V u n)) = true
    · rw [if_pos hx0] at hx
      subst hx
      rw [if_neg (by decide)]
      have : (!decide (b = 0) && ((List.range i).any (clP V u n) || clP V u n i)) = true := by
        rw [Bool.and_eq_true] at hx0 ⊢
        exact ⟨hx0.1, by rw [hx0.2]; rfl⟩
      rw [if_pos this]
    · rw [if_neg hx0] at hx
      subst hx
      rw [if_pos rfl, hib, ck_mk]
      by_cases c1 : V 21 i = u
      · rw [if_pos c1, ck_mk]
        by_cases c2 : V 22 i = n
        · rw [if_pos c2, ck_mk]
          by_cases c3 : V 23 i = 0
          · rw [if_pos c3]
            have : clP V u n i = false := by simp [clP, c3]
            rw [this, Bool.or_false, if_neg hx0]
          · rw [if_neg c3]
            have hcl : clP V u n i = true := by simp [clP, c1, c2, c3]
            by_cases hb : b = 0
            · rw [if_pos hb]
              simp [hb]
            · rw [if_neg hb, hcl]
              simp [hb]
        · rw [if_neg c2]
          have : clP V u n i = false := by simp [clP, c2]
          rw [this, Bool.or_false, if_neg hx0]
      · rw [if_neg c1]
        have : clP V u n i = false := by simp [clP, c1]
        rw [this, Bool.or_false, if_neg hx0]) (by
    rintro m ⟨x, S⟩ ⟨hS, hx⟩
    simp only at hS hx
    subst hS
    show lp_Mo_hasName_6 u n b _ (m + 1) x (nI ((V 3 0).toNatClampNeg)) S = _
    rw [lp_Mo_hasName_6, if_pos (by rw [hr.y0]; exact (le_cnt h.y0 (by omega)).mpr (Nat.le_refl _)), hx]
    unfold clB
    by_cases hc : (!decide (b = 0) && (List.range ((V 3 0).toNatClampNeg)).any (clP V u n)) = true
    · rw [if_pos hc]; rfl
    · rw [if_neg hc]; rfl) 0 (0, M) (Nat.zero_le _) ⟨rfl, by simp⟩
  exact key
