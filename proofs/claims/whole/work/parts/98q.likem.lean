/-! The reference's likeness, whole. -/
theorem like12 {V S N X : Sto} (h : WF V) (hQ : NQ V S N) (hX : Only [28] N X) {s : Nat} (hs : s < (V 2 0).toNatClampNeg) (hold : ∀ a b, a < s → b < (V 2 0).toNatClampNeg → X 28 (96 * a + b) = b2 (a0 V S a b)) {k : Sto → RT} {Q : RT → Prop} (hk : ∀ Y, Only [28] N Y → (∀ a b, a < s + 1 → b < (V 2 0).toNatClampNeg → Y 28 (96 * a + b) = b2 (a0 V S a b)) → Q (k Y)) : Q (lp_Mo_findLike_12 (nI s) k FU 0 X) := by
  have hs1 := h.s1
  refine forK (L := lp_Mo_findLike_12 (nI s) k) (N := (V 2 0).toNatClampNeg) (Inv := fun i Y => Only [28] N Y ∧ (∀ a b, a < s → b < (V 2 0).toNatClampNeg → Y 28 (96 * a + b) = b2 (a0 V S a b)) ∧ ∀ b, b < i → Y 28 (96 * s + b) = b2 (a0 V S s b)) (Q := Q) (by omega) ?_ ?_ 0 X (Nat.zero_le _) ⟨hX, hold, fun b hb => absurd hb (Nat.not_lt_zero _)⟩
  · rintro n i Y hi ⟨y1, y2, y3⟩ ih
    have hMY : MB V (inS V) S Y := hQ.m.only y1 (by decide)
    have hRY : RM V S Y := ⟨fun s hs => by rw [y1 25 (by decide)]; exact hQ.q.r s hs, fun n hn => by rw [y1 23 (by decide)]; exact hQ.q.n n hn⟩
    have ei : (96 : Int32) * nI s + nI i = nI (96 * s + i) := by
      have e1 := nI_mul 96 s
      have e2 := nI_add (96 * s) i
      rw [← e1] at e2
      exact e2
    have put : ∀ c : Bool, a0 V S s i = c → Q (lp_Mo_findLike_12 (nI s) k n (nI (i + 1)) (sw Y 28 (96 * s + i) (b2 c))) := by
      intro c hc
      refine ih _ ⟨y1.sw (by decide), fun a b ha hb => ?_, fun b hb => ?_⟩
      · rw [sw_at, if_neg (by omega)]; exact y2 a b ha hb
      · rw [sw_at]
        by_cases e : b = i
        · rw [if_pos (by rw [e]), e, hc]
        · rw [if_neg (by omega)]; exact y3 b (by omega)
    have p0 : a0 V S s i = false → Q (lp_Mo_findLike_12 (nI s) k n (nI (i + 1)) (sw Y 28 (96 * s + i) 0)) := fun z => put false z
    have p1 : a0 V S s i = true → Q (lp_Mo_findLike_12 (nI s) k n (nI (i + 1)) (sw Y 28 (96 * s + i) 1)) := fun z => put true z
    rw [lp_Mo_findLike_12, hMY.r.s0, if_neg (fun z => by have := (le_cnt h.s0 (by omega)).mp z; omega), hMY.r.fo, ei, ib_nI (show 96 * s + i < 9216 by omega) (by decide), cI (by omega), nI1, mayFoldM_eq h hMY.r hRY hs, cl_mk, mayFoldM_eq h hMY.r hRY hi, cl_mk]
    simp only [ck_mk, nm_mk]
    by_cases c0 : V 0 12 = 0
    · rw [if_pos c0]
      exact p0 (by unfold a0; rw [decide_eq_true c0]; rfl)
    · rw [if_neg c0]
      by_cases c1 : s = i
      · rw [if_pos (by rw [c1])]
        exact p0 (by unfold a0; rw [decide_eq_true c1, Bool.not_true, Bool.false_and, Bool.and_false])
      · rw [if_neg (fun z => c1 ((nI_eq (by omega) (by omega)).mp z))]
        have ea : a0 V S s i = (mf V S s && (mf V S i && wl V s i)) := by unfold a0; rw [decide_eq_false c0, decide_eq_false c1]; rfl
        cases m1 : mf V S s with
        | false =>
          rw [if_pos b2f]
          exact p0 (by rw [ea, m1]; rfl)
        | true =>
          rw [if_neg b2t]
          cases m2 : mf V S i with
          | false =>
            rw [if_pos b2f]
            exact p0 (by rw [ea, m1, m2]; rfl)
          | true =>
            rw [if_neg b2t, likeW_eq h hMY.r hs hi (mf_text m1).2.1 (mf_text m2).2.1, cl_mk]
            cases w : wl V s i with
            | false =>
              rw [if_pos b2f]
              exact p0 (by rw [ea, m1, m2, w]; rfl)
            | true =>
              rw [if_neg b2t]
              exact p1 (by rw [ea, m1, m2, w]; rfl)
  · rintro n Y ⟨y1, y2, y3⟩
    have hMY : MB V (inS V) S Y := hQ.m.only y1 (by decide)
    rw [lp_Mo_findLike_12, hMY.r.s0, if_pos ((le_cnt h.s0 (by omega)).mpr (Nat.le_refl _))]
    refine hk Y y1 (fun a b ha hb => ?_)
    by_cases e : a = s
    · rw [e]; exact y3 b hb
    · exact y2 a b (by omega) hb
theorem like187 {V S N T X : Sto} (h : WF V) (hF : FD V S T) {A : Nat → Nat → Bool} (hA : AL V A X) (hAR : ∀ a b, a < (V 2 0).toNatClampNeg → b < (V 2 0).toNatClampNeg → (A a b = true ↔ RT' V T a b)) {s : Nat} (hs : s < (V 2 0).toNatClampNeg) (h26 : X 26 s = nI s) {k : Sto → RT} {Q : RT → Prop} (hk : ∀ Y, Only [26] X Y → (∀ t, t ≠ s → Y 26 t = X 26 t) → Y 26 s = T 46 s → Q (k Y)) : Q (lp_Mo_findLike_187 (nI s) k FU (nI s - 1) X) := by
  have hs1 := h.s1
  refine forD (L := lp_Mo_findLike_187 (nI s) k) (Inv := fun i Y => i ≤ s ∧ Only [26] X Y ∧ (∀ t, t ≠ s → Y 26 t = X 26 t) ∧ ∃ l, Y 26 s = nI l ∧ i ≤ l ∧ l ≤ s ∧ (l = s ∨ A s l = true) ∧ ∀ t, i ≤ t → t < l → A s t = false) (Q := Q) ?_ ?_ s X (by omega) ⟨Nat.le_refl _, Only.refl, fun t _ => rfl, s, h26, Nat.le_refl _, Nat.le_refl _, Or.inl rfl, fun t h1 h2 => by omega⟩
  · rintro n i Y ⟨y0, y1, y2, l, l1, l2, l3, l4, l5⟩ ih
    have ei : (96 : Int32) * nI s + nI i = nI (96 * s + i) := by
      have e1 := nI_mul 96 s
      have e2 := nI_add (96 * s) i
      rw [← e1] at e2
      exact e2
    rw [lp_Mo_findLike_187, if_neg (nI_pos (by omega)), ei, ib_nI (show 96 * s + i < 9216 by omega) (by decide), ib_nI (show s < 96 by omega) (by decide), cI (show 96 * s + i < 2 ^ 31 by omega), cI (show s < 2 ^ 31 by omega), y1 28 (by decide), hA s i hs (by omega), addm1]
    simp only [ck_mk, nm_mk]
    cases hAi : A s i with
    | false =>
      rw [if_pos b2f]
      refine ih _ ⟨by omega, y1.sw (by decide), fun t ht => by rw [sw_at, if_neg ht]; exact y2 t ht, l, by rw [sw_at, if_pos rfl]; exact l1, by omega, l3, l4, fun t h1 h2 => ?_⟩
      by_cases e : t = i
      · rw [e]; exact hAi
      · exact l5 t (by omega) h2
    | true =>
      rw [if_neg b2t]
      exact ih _ ⟨by omega, y1.sw (by decide), fun t ht => by rw [sw_at, if_neg ht]; exact y2 t ht, i, by rw [sw_at, if_pos rfl], Nat.le_refl _, by omega, Or.inr hAi, fun t h1 h2 => by omega⟩
  · rintro n Y ⟨y0, y1, y2, l, l1, l2, l3, l4, l5⟩
    rw [lp_Mo_findLike_187, if_pos (by decide)]
    refine hk Y y1 y2 ?_
    have hle := hF.le s hs
    have hld := hF.ld s hs
    rw [l1, hF.n s hs]
    congr 1
    rcases Nat.lt_trichotomy l ((T 46 s).toNatClampNeg) with c | c | c
    · exfalso
      rcases l4 with e | e
      · omega
      · have hR := (hAR s l hs (by omega)).mp e
        have h2 := hF.le l (by omega)
        rw [← hR.2.2.2] at h2
        omega
    · exact c
    · exfalso
      have := l5 ((T 46 s).toNatClampNeg) (Nat.zero_le _) c
      have hR : RT' V T s ((T 46 s).toNatClampNeg) := ⟨by omega, hs, by omega, hld.symm⟩
      rw [(hAR s _ hs (by omega)).mpr hR] at this
      cases this
theorem findLike_eq {V S N T : Sto} (h : WF V) (hQ : NQ V S N) (h40 : T 40 = S 40) (h41 : T 41 = S 41) (hF : FD V S T) : ∃ X, f_Mo_findLike N = some (0, X) ∧ Only [26, 28] N X ∧ ∀ s, s < (V 2 0).toNatClampNeg → X 26 s = T 46 s := by
  have hs1 := h.s1
  have hm := hQ.mr h
  obtain ⟨Q, hQd⟩ : ∃ Q : RT → Prop, (fun r => ∃ X, r = some (0, X) ∧ Only [26, 28] N X ∧ ∀ s, s < (V 2 0).toNatClampNeg → X 26 s = T 46 s) = Q := ⟨_, rfl⟩
  suffices hq : Q (f_Mo_findLike N) by rw [← hQd] at hq; exact hq
  have fin : ∀ X, Only [26, 28] N X → (∀ s, s < (V 2 0).toNatClampNeg → X 26 s = T 46 s) → Q (some (0, X)) := fun X a b => by rw [← hQd]; exact ⟨X, rfl, a, b⟩
  -- the last loop
  have l3 : ∀ (X : Sto) (A : Nat → Nat → Bool), Only [28] N X → AL V A X → (∀ a b, a < (V 2 0).toNatClampNeg → b < (V 2 0).toNatClampNeg → (A a b = true ↔ RT' V T a b)) → Q (lp_Mo_findLike_168 (fun V20 => some (0, V20)) FU 0 X) := by
    intro X A hX hA hAR
    refine forK (L := lp_Mo_findLike_168 (fun V20 => some (0, V20))) (N := (V 2 0).toNatClampNeg) (Inv := fun i Y => Only [26] X Y ∧ ∀ s, s < i → Y 26 s = T 46 s) (Q := Q) (by omega) ?_ ?_ 0 X (Nat.zero_le _) ⟨Only.refl, fun s hs => absurd hs (Nat.not_lt_zero _)⟩
    · rintro n i Y hi ⟨y1, y2⟩ ih
      have hO : Only [26, 28] N Y := (hX.mono (by decide)).trans (y1.mono (by decide))
      have hMY : MB V (inS V) S Y := hQ.m.only hO (by decide)
      rw [lp_Mo_findLike_168, hMY.r.s0, if_neg (fun z => by have := (le_cnt h.s0 (by omega)).mp z; omega), ib_nI (show i < 96 by omega) (by decide), ck_mk, nm_mk, cI (by omega), nI1]
      refine like187 (N := N) h hF (A := A) (fun a b ha hb => by rw [sw_ne (by decide), y1 28 (by decide)]; exact hA a b ha hb) hAR hi (by rw [sw_at, if_pos rfl]) (fun Z z1 z2 z3 => ?_)
      refine ih Z ⟨(y1.sw (by decide)).trans z1, fun s hs => ?_⟩
      by_cases e : s = i
      · rw [e]; exact z3
      · rw [z2 s e, sw_at, if_neg e]; exact y2 s (by omega)
    · rintro n Y ⟨y1, y2⟩
      have hO : Only [26, 28] N Y := (hX.mono (by decide)).trans (y1.mono (by decide))
      have hMY : MB V (inS V) S Y := hQ.m.only hO (by decide)
      rw [lp_Mo_findLike_168, hMY.r.s0, if_pos ((le_cnt h.s0 (by omega)).mpr (Nat.le_refl _))]
      exact fin Y hO y2
  obtain ⟨K3, hK3⟩ : ∃ K : Sto → RT, (fun V15 => lp_Mo_findLike_168 (fun V20 => some (0, V20)) FU 0 V15) = K := ⟨_, rfl⟩
  have l3' : ∀ (X : Sto) (A : Nat → Nat → Bool), Only [28] N X → AL V A X → (∀ a b, a < (V 2 0).toNatClampNeg → b < (V 2 0).toNatClampNeg → (A a b = true ↔ RT' V T a b)) → Q (K3 X) := by rw [← hK3]; exact l3
  have done : ∀ (X : Sto) (A : Nat → Nat → Bool), Only [28] N X → AL V A X → (∀ a b, a < (V 2 0).toNatClampNeg → b < (V 2 0).toNatClampNeg → A a b = true → a0 V S a b = true) → (∀ a b, RT' V T a b → A a b = true) → (∀ a b, a < (V 2 0).toNatClampNeg → b < (V 2 0).toNatClampNeg → A a b = true → hl V S A a b = true) → Q (K3 X) := by
    intro X A h1 h2 h3 h4 h5
    exact l3' X A h1 h2 (fun a b ha hb => ⟨fun z => ⟨(a0_iff.mp (h3 a b ha hb z)).2.1, ha, hb, A_R h hm hF h3 h5 ha hb z⟩, h4 a b⟩)
  have l2 : ∀ X, Only [28] N X → AL V (a0 V S) X → Q (lp_Mo_findLike_90 K3 FU (X 0 27) X) := by
    intro X hX hA
    have e27 : X 0 27 = V 0 12 := by rw [hX 0 (by decide)]; exact hQ.m.r.fo
    have key := loopK (σ := Int32 × Sto) (L := fun n Y => lp_Mo_findLike_90 K3 n Y.1 Y.2) (Inv := fun m Y => Only [28] N Y.2 ∧ ∃ A, AL V A Y.2 ∧ (∀ a b, a < (V 2 0).toNatClampNeg → b < (V 2 0).toNatClampNeg → A a b = true → a0 V S a b = true) ∧ (∀ a b, RT' V T a b → A a b = true) ∧ ((Y.1 = 0 ∧ ∀ a b, a < (V 2 0).toNatClampNeg → b < (V 2 0).toNatClampNeg → A a b = true → hl V S A a b = true) ∨ (Y.1 = 1 ∧ m = nA A + 1))) (Q := Q) (by
      rintro n m ⟨x, Y⟩ ⟨y1, A, y2, y3, y4, y5⟩ ih
      simp only at y1 y2 y5
      show Q (lp_Mo_findLike_90 K3 (n + 1) x Y)
      rw [lp_Mo_findLike_90]
      rcases y5 with ⟨e, e2⟩ | ⟨e, e2⟩
      · rw [if_pos e]
        exact done Y A y1 y2 y3 y4 e2
      · rw [if_neg (by rw [e]; decide)]
        refine like98 h hQ h40 h41 hF y1 y2 y3 y4 (fun c A' Z z1 z2 z3 z4 z5 z6 => ?_)
        cases c with
        | true =>
          have := z5 rfl
          exact ih (nA A' + 1) (1, Z) (by omega) ⟨z1, A', z2, z3, z4, Or.inr ⟨rfl, rfl⟩⟩
        | false => exact ih 0 (0, Z) (by omega) ⟨z1, A', z2, z3, z4, Or.inl ⟨rfl, z6 rfl⟩⟩) (nA (a0 V S) + 1) FU (X 0 27, X) (by
      refine ⟨hX, a0 V S, hA, fun _ _ _ _ z => z, fun a b z => R_a0 hF z, ?_⟩
      rw [e27]
      rcases bb_of h.fo with e | e
      · refine Or.inl ⟨e, fun a b _ _ z => ?_⟩
        exact absurd e (a0_iff.mp z).1
      · exact Or.inr ⟨e, rfl⟩) (by
      have := List.countP_le_length (p := fun p => a0 V S (p / 96) (p % 96)) (l := List.range 9216)
      rw [List.length_range] at this
      have e : nA (a0 V S) ≤ 9216 := this
      unfold FU
      omega)
    exact key
  obtain ⟨K2, hK2⟩ : ∃ K : Sto → RT, (fun V11 => lp_Mo_findLike_90 K3 FU (V11 0 27) V11) = K := ⟨_, rfl⟩
  have l2' : ∀ X, Only [28] N X → AL V (a0 V S) X → Q (K2 X) := by rw [← hK2]; exact l2
  unfold f_Mo_findLike
  rw [hK3, hK2]
  refine forK (L := lp_Mo_findLike_2 K2) (N := (V 2 0).toNatClampNeg) (Inv := fun i Y => Only [28] N Y ∧ ∀ a b, a < i → b < (V 2 0).toNatClampNeg → Y 28 (96 * a + b) = b2 (a0 V S a b)) (Q := Q) (by omega) ?_ ?_ 0 N (Nat.zero_le _) ⟨Only.refl, fun a b ha => absurd ha (Nat.not_lt_zero _)⟩
  · rintro n i Y hi ⟨y1, y2⟩ ih
    have hMY : MB V (inS V) S Y := hQ.m.only y1 (by decide)
    rw [lp_Mo_findLike_2, hMY.r.s0, if_neg (fun z => by have := (le_cnt h.s0 (by omega)).mp z; omega), nI1]
    exact like12 h hQ y1 hi y2 (fun Z z1 z2 => ih Z ⟨z1, z2⟩)
  · rintro n Y ⟨y1, y2⟩
    have hMY : MB V (inS V) S Y := hQ.m.only y1 (by decide)
    rw [lp_Mo_findLike_2, hMY.r.s0, if_pos ((le_cnt h.s0 (by omega)).mpr (Nat.le_refl _))]
    exact l2' Y y1 (fun a b ha hb => y2 a b ha hb)
