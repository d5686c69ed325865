/-! The reference's arrivals. -/
theorem RelD.only {V M N : Sto} {L : List Nat} (h : RelD V M) (ho : Only L M N) (hl : ∀ q ∈ L, 19 < q) : RelD V N := by
  have e : ∀ q, q < 20 → N q = M q := fun q hq => ho q (fun z => by have := hl q z; omega)
  unfold RelD at h ⊢
  rw [e 0 (by decide), e 1 (by decide), e 2 (by decide), e 3 (by decide), e 4 (by decide), e 5 (by decide), e 6 (by decide), e 7 (by decide), e 8 (by decide), e 9 (by decide), e 10 (by decide), e 11 (by decide), e 12 (by decide), e 13 (by decide), e 14 (by decide), e 15 (by decide), e 16 (by decide), e 17 (by decide), e 18 (by decide), e 19 (by decide)]
  exact h
theorem RelD.c0 {V M : Sto} (h : RelD V M) {j : Nat} {x : Int32} (hj : j ∉ [1, 3, 10, 11, 13, 20, 26, 27, 28]) : RelD V (sw M 0 j x) := by
  have e : ∀ q, q ≠ 0 → sw M 0 j x q = M q := fun q hq => sw_ne hq
  simp at hj
  have e0 : ∀ i, i ≠ j → sw M 0 j x 0 i = M 0 i := fun i hi => by rw [sw_at, if_neg hi]
  unfold RelD at h ⊢
  rw [e0 1 (by omega), e0 3 (by omega), e0 10 (by omega), e0 11 (by omega), e0 13 (by omega), e0 20 (by omega), e0 26 (by omega), e0 27 (by omega), e0 28 (by omega), e 1 (by decide), e 2 (by decide), e 3 (by decide), e 4 (by decide), e 5 (by decide), e 6 (by decide), e 7 (by decide), e 8 (by decide), e 9 (by decide), e 10 (by decide), e 11 (by decide), e 12 (by decide), e 13 (by decide), e 14 (by decide), e 15 (by decide), e 16 (by decide), e 17 (by decide), e 18 (by decide), e 19 (by decide)]
  exact h
def MI (V : Sto) (A : Nat → Bool) (M : Sto) : Prop :=
  (RelD V M) ∧
  (∀ u, u < (V 1 0).toNatClampNeg → M 20 u = b2 (A u))
theorem MI.r {V : Sto} {A : Nat → Bool} {M : Sto} (h : MI V A M) : RelD V M := h.1
theorem MI.u {V : Sto} {A : Nat → Bool} {M : Sto} (h : MI V A M) : ∀ u, u < (V 1 0).toNatClampNeg → M 20 u = b2 (A u) := h.2
theorem srt0 {x : Int32} : srt x = 0 ↔ x = 1 := by
  unfold srt
  by_cases c : x = 1
  · subst c; simp
  · rw [if_neg c]
    by_cases d : x = 0
    · rw [if_pos d]; simp [c]
    · rw [if_neg d]; simp [c, d]
theorem srt1' {x : Int32} : srt x = 1 ↔ x = 0 := by
  unfold srt
  by_cases c : x = 1
  · subst c; simp
  · rw [if_neg c]
    by_cases d : x = 0
    · rw [if_pos d]; simp [d]
    · rw [if_neg d]; simp [c, d]
theorem ib4 {x : Int32} (h : ib x 4 = true) : x = 0 ∨ x = 1 ∨ x = 2 ∨ x = 3 := by
  have h1 := ib_eq h
  have h2 := ib_lt h
  have h3 : x.toNatClampNeg = 0 ∨ x.toNatClampNeg = 1 ∨ x.toNatClampNeg = 2 ∨ x.toNatClampNeg = 3 := by omega
  rcases h3 with e | e | e | e <;> rw [e] at h1 <;> simp [h1, nI]
theorem any_succ (i : Nat) (p : Nat → Bool) : (List.range (i + 1)).any p = ((List.range i).any p || p i) := by
  rw [List.range_succ, List.any_append]
  simp
theorem nmI {V : Sto} (h : WF V) {y : Nat} (hy : y < (V 3 0).toNatClampNeg) {n : Nat} (hn : n < 200) : V 22 y = nI n ↔ dN V y = n := by
  rw [ib_eq (h.yn y hy)]
  exact nI_eq (ct_lt _) (by omega)
theorem isGiven_eq {V M : Sto} (h : WF V) {A : Nat → Bool} (hM : MI V A M) {n : Nat} (hn : n < 200) : f_Mo_isGiven M (nI n) = some (b2 (givn V A n), M) := by
  have hy1 := h.y1
  have hu1 := h.u1
  have hr := hM.r
  unfold f_Mo_isGiven
  have key := forK (σ := Int32) (L := fun m i x => lp_Mo_isGiven_4 (nI n) (fun y1 V1 => ck (bb y1) <| some (y1, V1)) m x i M) (N := (V 3 0).toNatClampNeg) (Inv := fun i x => x = b2 ((List.range i).any (fun y => A (dU V y) && givesY V y n))) (Q := fun r => r = some (b2 (givn V A n), M)) (by omega) (by
    rintro m i x hi hx ih
    have hui := h.yu i hi
    have hul : dU V i < (V 1 0).toNatClampNeg := ib_lt hui
    have ef : M 10 i = 1 ↔ V 24 i = 0 := by rw [hr.yf i hi]; exact srt1'
    rw [lp_Mo_isGiven_4, hr.y0, if_neg (fun z => by have := (le_cnt h.y0 (by omega)).mp z; omega), ib_nI (by omega) (by decide), cI (by omega), hr.yu, hr.yn, hr.yb, ib_mono hui hu1, nI1]
    simp only [ck_mk]
    have e20 : M 20 (V 21 i).toNatClampNeg = b2 (A (dU V i)) := hM.u _ hul
    rw [e20]
    rw [hx]
    have es := any_succ i (fun y => A (dU V y) && givesY V y n)
    cases hb : (List.range i).any (fun y => A (dU V y) && givesY V y n) with
    | true =>
      rw [hb, Bool.true_or] at es
      rw [if_neg b2t]
      exact ih 1 (by rw [es]; rfl)
    | false =>
      rw [hb, Bool.false_or] at es
      rw [if_pos b2f]
      cases hA : A (dU V i) with
      | false =>
        rw [if_pos b2f]
        exact ih 0 (by rw [es, hA]; rfl)
      | true =>
        rw [if_neg b2t]
        rw [hA, Bool.true_and] at es
        have hf : givesY V i n = false → (0 : Int32) = b2 ((List.range (i + 1)).any (fun y => A (dU V y) && givesY V y n)) := fun z => by rw [es, z]; rfl
        by_cases c1 : V 22 i = nI n
        · rw [if_pos c1]
          by_cases c2 : V 24 i = 0
          · rw [if_pos (ef.mpr c2)]
            exact ih 0 (hf (by cases hg : givesY V i n with | false => rfl | true => exact absurd c2 (givesY_iff.mp hg).2.1))
          · rw [if_neg (fun z => c2 (ef.mp z))]
            by_cases c3 : V 23 i = 0
            · rw [if_pos c3]
              exact ih 0 (hf (by cases hg : givesY V i n with | false => rfl | true => exact absurd c3 (givesY_iff.mp hg).2.2))
            · rw [if_neg c3]
              exact ih 1 (by rw [es, givesY_iff.mpr ⟨(nmI h hi hn).mp c1, c2, c3⟩]; rfl)
        · rw [if_neg c1]
          exact ih 0 (hf (by cases hg : givesY V i n with | false => rfl | true => exact absurd ((nmI h hi hn).mpr (givesY_iff.mp hg).1) c1))) (by
    rintro m x hx
    rw [lp_Mo_isGiven_4, hr.y0, if_pos ((le_cnt h.y0 (by omega)).mpr (Nat.le_refl _)), hx, bb_b2, ck_mk]
    rfl) 0 0 (Nat.zero_le _) rfl
  exact key
theorem isNeededM_eq {V M : Sto} (h : WF V) {A : Nat → Bool} (hM : MI V A M) {n : Nat} (hn : n < 200) : f_Mo_isNeeded M (nI n) = some (b2 (need V A n), M) := by
  have hy1 := h.y1
  have hu1 := h.u1
  have hr := hM.r
  unfold f_Mo_isNeeded
  simp only [jn_mk]
  have key : ∀ z : Bool, z = decide (V 0 11 = nI n) → lp_Mo_isNeeded_16 (nI n) (fun y1 V1 => if y1 = 0 then some (0, V1) else cl (f_Mo_isGiven V1 (nI n)) fun r1 V2 => if r1 = 0 then some (1, V2) else some (0, V2)) FU (b2 z) 0 M = some (b2 (need V A n), M) := by
    intro z hz
    have key := forK (σ := Int32) (L := fun m i x => lp_Mo_isNeeded_16 (nI n) (fun y1 V1 => if y1 = 0 then some (0, V1) else cl (f_Mo_isGiven V1 (nI n)) fun r1 V2 => if r1 = 0 then some (1, V2) else some (0, V2)) m x i M) (N := (V 3 0).toNatClampNeg) (Inv := fun i x => x = b2 (z || (List.range i).any (fun y => A (dU V y) && asksY V y n))) (Q := fun r => r = some (b2 (need V A n), M)) (by omega) (by
      rintro m i x hi hx ih
      have hui := h.yu i hi
      have hul : dU V i < (V 1 0).toNatClampNeg := ib_lt hui
      have ef : M 10 i = 1 ↔ V 24 i = 0 := by rw [hr.yf i hi]; exact srt1'
      rw [lp_Mo_isNeeded_16, hr.y0, if_neg (fun z => by have := (le_cnt h.y0 (by omega)).mp z; omega), ib_nI (by omega) (by decide), cI (by omega), hr.yu, hr.yn, hr.yb, ib_mono hui hu1, nI1]
      simp only [ck_mk]
      have e20 : M 20 (V 21 i).toNatClampNeg = b2 (A (dU V i)) := hM.u _ hul
      rw [e20]
      rw [hx]
      have es := any_succ i (fun y => A (dU V y) && asksY V y n)
      cases hb : (z || (List.range i).any (fun y => A (dU V y) && asksY V y n)) with
      | true =>
        rw [if_neg b2t]
        exact ih 1 (by rw [es, ← Bool.or_assoc, hb]; rfl)
      | false =>
        have es2 : (z || (List.range (i + 1)).any (fun y => A (dU V y) && asksY V y n)) = (A (dU V i) && asksY V i n) := by rw [es, ← Bool.or_assoc, hb, Bool.false_or]
        rw [if_pos b2f]
        cases hA : A (dU V i) with
        | false =>
          rw [if_pos b2f]
          exact ih 0 (by rw [es2, hA]; rfl)
        | true =>
          rw [if_neg b2t]
          rw [hA, Bool.true_and] at es2
          have hf : asksY V i n = false → (0 : Int32) = b2 (z || (List.range (i + 1)).any (fun y => A (dU V y) && asksY V y n)) := fun z => by rw [es2, z]; rfl
          by_cases c1 : V 22 i = nI n
          · rw [if_pos c1]
            by_cases c2 : V 24 i = 0
            · rw [if_pos (ef.mpr c2)]
              by_cases c3 : V 23 i = 1
              · rw [if_pos c3]
                exact ih 1 (by rw [es2, asksY_iff.mpr ⟨(nmI h hi hn).mp c1, c2, c3⟩]; rfl)
              · rw [if_neg c3]
                exact ih 0 (hf (by cases hg : asksY V i n with | false => rfl | true => exact absurd (asksY_iff.mp hg).2.2 c3))
            · rw [if_neg (fun z => c2 (ef.mp z))]
              exact ih 0 (hf (by cases hg : asksY V i n with | false => rfl | true => exact absurd (asksY_iff.mp hg).2.1 c2))
          · rw [if_neg c1]
            exact ih 0 (hf (by cases hg : asksY V i n with | false => rfl | true => exact absurd ((nmI h hi hn).mpr (asksY_iff.mp hg).1) c1))) (by
      rintro m x hx
      rw [lp_Mo_isNeeded_16, hr.y0, if_pos ((le_cnt h.y0 (by omega)).mpr (Nat.le_refl _)), hx, hz, isGiven_eq h hM hn]
      show (if b2 (askd V A n) = 0 then _ else _) = some (b2 (askd V A n && !givn V A n), M)
      cases askd V A n with
      | false => rw [if_pos b2f]; rfl
      | true =>
        rw [if_neg b2t, cl_mk]
        cases givn V A n with
        | false => rw [if_pos b2f]; rfl
        | true => rw [if_neg b2t]; rfl) 0 (b2 z) (Nat.zero_le _) (by simp)
    exact key
  rw [hr.en]
  by_cases c : nI n = V 0 11
  · rw [if_pos c]
    exact key true (decide_eq_true c.symm).symm
  · rw [if_neg c]
    exact key false (decide_eq_false (fun z => c z.symm)).symm
theorem helps_eq {V M : Sto} (h : WF V) {A : Nat → Bool} (hM : MI V A M) {u : Nat} (hu : u < (V 1 0).toNatClampNeg) : f_Mo_helps M (nI u) = some (b2 (hlp V A u), M) := by
  have hy1 := h.y1
  have hu1 := h.u1
  have hr := hM.r
  unfold f_Mo_helps
  have key := forK (σ := Int32) (L := fun m i x => lp_Mo_helps_4 (nI u) (fun y1 V2 => ck (bb y1) <| some (y1, V2)) m x i M) (N := (V 3 0).toNatClampNeg) (Inv := fun i x => x = b2 ((List.range i).any (fun y => decide (dU V y = u) && brings V A y))) (Q := fun r => r = some (b2 (hlp V A u), M)) (by omega) (by
    rintro m i x hi hx ih
    have hui := h.yu i hi
    have hul : dU V i < (V 1 0).toNatClampNeg := ib_lt hui
    have hn : dN V i < 200 := ib_lt (h.yn i hi)
    have ef : M 10 i = 1 ↔ V 24 i = 0 := by rw [hr.yf i hi]; exact srt1'
    have eu : V 21 i = nI u ↔ dU V i = u := by
      rw [ib_eq hui]
      exact nI_eq (ct_lt _) (by omega)
    have en : f_Mo_isNeeded M (V 22 i) = some (b2 (need V A (dN V i)), M) := by
      have := isNeededM_eq h hM hn
      rw [show nI (dN V i) = V 22 i from (ib_eq (h.yn i hi)).symm] at this
      exact this
    rw [lp_Mo_helps_4, hr.y0, if_neg (fun z => by have := (le_cnt h.y0 (by omega)).mp z; omega), ib_nI (by omega) (by decide), cI (by omega), hr.yu, hr.yn, hr.yb, nI1]
    simp only [ck_mk, jn_mk, i10, if_true, if_false, en, cl_mk]
    rw [hx]
    have es := any_succ i (fun y => decide (dU V y = u) && brings V A y)
    cases hb : (List.range i).any (fun y => decide (dU V y = u) && brings V A y) with
    | true =>
      rw [if_neg b2t]
      have : hlp V A u = true := by
        obtain ⟨y, y1, y2⟩ := any_range.mp hb
        exact any_range.mpr ⟨y, by omega, y2⟩
      rw [this, bb_b2]
      rfl
    | false =>
      rw [hb, Bool.false_or] at es
      rw [if_pos b2f]
      have hf : brings V A i = false → (0 : Int32) = b2 ((List.range (i + 1)).any (fun y => decide (dU V y = u) && brings V A y)) := fun z => by rw [es, z, Bool.and_false]; rfl
      by_cases c1 : V 21 i = nI u
      · rw [if_pos c1]
        rw [decide_eq_true (eu.mp c1), Bool.true_and] at es
        by_cases c2 : V 24 i = 0
        · rw [if_pos (ef.mpr c2)]
          exact ih 0 (hf (by unfold brings; simp [c2]))
        · rw [if_neg (fun z => c2 (ef.mp z))]
          have last : (V 23 i = 1 ∨ V 23 i = 3) → (if b2 (need V A (dN V i)) = 0 then lp_Mo_helps_4 (nI u) (fun y1 V2 => ck (bb y1) (some (y1, V2))) m 0 (nI (i + 1)) M else lp_Mo_helps_4 (nI u) (fun y1 V2 => ck (bb y1) (some (y1, V2))) m 1 (nI (i + 1)) M) = some (b2 (hlp V A u), M) := by
            intro hc
            have eb : brings V A i = need V A (dN V i) := by
              unfold brings
              rcases hc with hc | hc <;> simp [c2, hc]
            cases hnn : need V A (dN V i) with
            | false =>
              rw [if_pos b2f]
              exact ih 0 (hf (by rw [eb, hnn]))
            | true =>
              rw [if_neg b2t]
              exact ih 1 (by rw [es, eb, hnn]; rfl)
          by_cases c3 : V 23 i = 1
          · rw [if_pos c3]
            exact last (Or.inl c3)
          · rw [if_neg c3]
            by_cases c4 : V 23 i = 3
            · rw [if_pos c4]
              exact last (Or.inr c4)
            · rw [if_neg c4]
              refine ih 0 (hf ?_)
              have : V 23 i = 0 ∨ V 23 i = 2 := by
                rcases ib4 (h.yb i hi) with e | e | e | e
                · exact Or.inl e
                · exact absurd e c3
                · exact Or.inr e
                · exact absurd e c4
              unfold brings
              rcases this with e | e <;> simp [e]
      · rw [if_neg c1]
        refine ih 0 ?_
        rw [es, decide_eq_false (fun z => c1 (eu.mpr z))]
        rfl) (by
    rintro m x hx
    rw [lp_Mo_helps_4, hr.y0, if_pos ((le_cnt h.y0 (by omega)).mpr (Nat.le_refl _)), hx, bb_b2, ck_mk]
    rfl) 0 0 (Nat.zero_le _) rfl
  exact key
