/-! The class's likeness, as it ends. -/
def FD (V S T : Sto) : Prop :=
  (∀ s, s < (V 2 0).toNatClampNeg → T 46 s = nI ((T 46 s).toNatClampNeg)) ∧
  (∀ s, s < (V 2 0).toNatClampNeg → (T 46 s).toNatClampNeg ≤ s) ∧
  (∀ s, s < (V 2 0).toNatClampNeg → T 46 ((T 46 s).toNatClampNeg) = T 46 s) ∧
  (∀ s t, s < (V 2 0).toNatClampNeg → t < (V 2 0).toNatClampNeg → T 46 s = T 46 t → E0 V S s t) ∧
  (∀ s t, s < (V 2 0).toNatClampNeg → t < (V 2 0).toNatClampNeg → T 46 s = T 46 t → sT V T s t = true) ∧
  (∀ R, Post V S R → ∀ s t, R s t → T 46 s = T 46 t)
theorem FD.n {V S T : Sto} (h : FD V S T) : ∀ s, s < (V 2 0).toNatClampNeg → T 46 s = nI ((T 46 s).toNatClampNeg) := h.1
theorem FD.le {V S T : Sto} (h : FD V S T) : ∀ s, s < (V 2 0).toNatClampNeg → (T 46 s).toNatClampNeg ≤ s := h.2.1
theorem FD.ld {V S T : Sto} (h : FD V S T) : ∀ s, s < (V 2 0).toNatClampNeg → T 46 ((T 46 s).toNatClampNeg) = T 46 s := h.2.2.1
theorem FD.b {V S T : Sto} (h : FD V S T) : ∀ s t, s < (V 2 0).toNatClampNeg → t < (V 2 0).toNatClampNeg → T 46 s = T 46 t → E0 V S s t := h.2.2.2.1
theorem FD.t {V S T : Sto} (h : FD V S T) : ∀ s t, s < (V 2 0).toNatClampNeg → t < (V 2 0).toNatClampNeg → T 46 s = T 46 t → sT V T s t = true := h.2.2.2.2.1
theorem FD.p {V S T : Sto} (h : FD V S T) : ∀ R, Post V S R → ∀ s t, R s t → T 46 s = T 46 t := h.2.2.2.2.2
theorem fold_eq {V S : Sto} (h : WF V) (hd : Dat V S) (ho : OrdQ V S) (hm : MR V S) : ∃ T, f_Fo_settle S (V 0 12) = some (0, T) ∧ Only [46, 47] S T ∧ FD V S T := by
  have hs1 := h.s1
  -- once nothing changes
  have fin : ∀ (T T' : Sto) (E : Nat → Nat → Prop), Only [46, 47] S T → EI V S E T → Only [46, 47] T T' → EI V S (E1 V T E) T' → (∀ s, s < (V 2 0).toNatClampNeg → T' 46 s = T 46 s) → FD V S T' := by
    intro T T' E hO hE hO' hE' hst
    refine ⟨hE'.n, fun s hs => (hE'.m s hs).1, fun s hs => ?_, fun s t hs ht z => hE'.b s t hs ht ((hE'.iff hs ht).mp z), fun s t hs ht z => ?_, fun R hR s t hR2 => ?_⟩
    · have hl := (hE'.m s hs).1
      simp only at hl
      exact (hE'.iff (by omega) hs).mpr (hE'.m s hs).2.1
    · have hb := hE'.b s t hs ht ((hE'.iff hs ht).mp z)
      have h1 := ((hE'.iff hs ht).mp z).2
      rcases hb with e | ⟨-, b2, b3, -⟩
      · rw [e]; exact sT_iff.mpr (fun _ _ => rfl)
      · have hl := E0_ln (hE'.b s t hs ht ((hE'.iff hs ht).mp z))
        refine sT_iff.mpr (fun k hk => ?_)
        have := sT_iff.mp h1 k hk
        obtain ⟨r1, r2⟩ := rl_lt hk
        obtain ⟨q1, q2⟩ := rl_lt (s := t) (k := k) (V := V) (by omega)
        have e40 : T 40 = S 40 := hO 40 (by decide)
        have e41 : T 41 = S 41 := hO 41 (by decide)
        have sm : ∀ r, r < (V 4 0).toNatClampNeg → ¬ S 43 (sec V r) = 0 → lm T' (dY V r) = lm T (dY V r) := by
          intro r hr h3
          unfold lm
          rw [hO' 40 (by decide), hO' 41 (by decide)]
          by_cases c : T 40 (dY V r) = 1
          · rw [if_pos c, if_pos c]
            rw [e40] at c
            rw [e41]
            exact hst _ (hm.w h hr h3 c).2
          · rw [if_neg c, if_neg c]
        rw [sm _ r1 (by rw [r2]; exact (mf_text b2).2.2.1), sm _ q1 (by rw [q2]; exact (mf_text b3).2.2.1)]
        exact this
    · obtain ⟨a1, a2, -⟩ := hR s t hR2
      exact (hE'.iff a1 a2).mpr (hE'.p R hR s t hR2)
  unfold f_Fo_settle
  refine fold_first h hd ho (Q := fun r => ∃ T, r = some (0, T) ∧ Only [46, 47] S T ∧ FD V S T) (fun T t1 t2 => ?_)
  refine forK (L := lp_Fo_settle_48 (fun V8 => some (0, V8))) (N := 96) (Inv := fun i X => Only [46, 47] S X ∧ (∃ E, EI V S E X) ∧ (0 < i → i + 1 ≤ lead V X)) (Q := fun r => ∃ T, r = some (0, T) ∧ Only [46, 47] S T ∧ FD V S T) (by decide) ?_ ?_ 0 T (Nat.zero_le _) ⟨t1.mono (by decide), ⟨_, t2⟩, fun z => absurd z (Nat.not_lt_zero _)⟩
  · rintro n i X hi ⟨x1, ⟨E, x2⟩, x3⟩ ih
    have hdX : Dat V X := hd.only x1 (by decide)
    have hoX : OrdQ V X := ho.keep (x1 32 (by decide)) (x1 33 (by decide))
    obtain ⟨c, Y, y1, y2, y3, y4, y5⟩ := split_eq h hdX hoX hm (x1 40 (by decide)) (x1 41 (by decide)) x2
    rw [lp_Fo_settle_48, if_neg (show ¬ (96 : Int32) ≤ nI i from nI_ge (b := 96) hi (by decide)), y1, cl_mk, nI1]
    cases c with
    | false =>
      rw [if_pos b2f]
      exact ⟨Y, rfl, x1.trans y2, fin X Y E x1 x2 y2 y3 (y4 rfl)⟩
    | true =>
      rw [if_neg b2t]
      have := y5 rfl
      refine ih Y ⟨x1.trans y2, ⟨_, y3⟩, fun _ => ?_⟩
      by_cases e : i = 0
      · subst e; omega
      · have := x3 (by omega); omega
  · rintro n X ⟨x1, ⟨E, x2⟩, x3⟩
    exfalso
    have h1 := x3 (by decide)
    have h2 : lead V X ≤ (V 2 0).toNatClampNeg := by
      have := List.countP_le_length (p := fun s => decide (X 46 s = nI s)) (l := List.range ((V 2 0).toNatClampNeg))
      rw [List.length_range] at this
      exact this
    omega
