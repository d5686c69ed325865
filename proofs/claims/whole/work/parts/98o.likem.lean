/-! Likeness, the reference's comparisons. -/
theorem nI_mul (a b : Nat) : nI a * nI b = nI (a * b) := (Int32.ofNat_mul a b).symm
theorem nI_div {a b : Nat} (ha : a < 2 ^ 31) (hb : b < 2 ^ 31) (hb0 : 0 < b) : nI a / nI b = nI (a / b) := by
  have hle : a / b ≤ a := Nat.div_le_self a b
  have hne : nI b ≠ -1 := m1_ne b hb
  refine eqI ?_
  rw [Int32.toInt_div_of_ne_right _ _ hne, nI_toInt ha, nI_toInt hb, nI_toInt (by omega), Int.tdiv_eq_ediv_of_nonneg (by omega)]
  rfl
theorem nI_mod {a b : Nat} (ha : a < 2 ^ 31) (hb : b < 2 ^ 31) (hb0 : 0 < b) : nI a - nI a / nI b * nI b = nI (a % b) := by
  have h1 : a / b * b ≤ a := Nat.div_mul_le_self a b
  have h2 := Nat.div_add_mod' a b
  rw [nI_div ha hb hb0, nI_mul, nI_sub h1 ha]
  congr 1
  omega
theorem Rl_sorted (V : Sto) (i s : Nat) : (Rl V i s).Pairwise (· < ·) := List.Pairwise.filter _ List.pairwise_lt_range
theorem rl_mono {V : Sto} {s j k : Nat} (hjk : j < k) (hk : k < ln V s) : rl V s j < rl V s k := by
  have hp := List.pairwise_iff_getElem.mp (Rl_sorted V ((V 4 0).toNatClampNeg) s) j k (show j < (Rl V ((V 4 0).toNatClampNeg) s).length from Nat.lt_trans hjk hk) hk hjk
  unfold rl
  rw [List.getD_eq_getElem?_getD, List.getElem?_eq_getElem (show j < (Rl V ((V 4 0).toNatClampNeg) s).length from Nat.lt_trans hjk hk), List.getD_eq_getElem?_getD, List.getElem?_eq_getElem hk]
  exact hp
/-- the k-th of a section's relocations, or the end -/
def nx (V : Sto) (s k : Nat) : Nat := if k < ln V s then rl V s k else (V 4 0).toNatClampNeg
theorem nx_le {V : Sto} {s k : Nat} : nx V s k ≤ (V 4 0).toNatClampNeg := by
  unfold nx
  by_cases c : k < ln V s
  · rw [if_pos c]; exact Nat.le_of_lt (rl_lt c).1
  · rw [if_neg c]; exact Nat.le_refl _
theorem nx_uniq {V : Sto} {s k i j : Nat} (hi : ∀ r, r < (V 4 0).toNatClampNeg → sec V r = s → (i ≤ r ↔ ∃ m, k ≤ m ∧ m < ln V s ∧ rl V s m = r)) (h1 : i ≤ j) (h2 : (j < (V 4 0).toNatClampNeg ∧ sec V j = s) ∨ j = (V 4 0).toNatClampNeg) (h3 : ∀ r, i ≤ r → r < j → r < (V 4 0).toNatClampNeg → ¬ sec V r = s) : j = nx V s k := by
  unfold nx
  by_cases c : k < ln V s
  · rw [if_pos c]
    obtain ⟨r1, r2⟩ := rl_lt c
    have hik : i ≤ rl V s k := (hi _ r1 r2).mpr ⟨k, Nat.le_refl _, c, rfl⟩
    have hjle : ¬ rl V s k < j := fun z => h3 _ hik z r1 r2
    rcases h2 with ⟨a, b⟩ | a
    · obtain ⟨m, m1, m2, m3⟩ := (hi j a b).mp h1
      by_cases e : k = m
      · rw [e]; exact m3.symm
      · have := rl_mono (show k < m by omega) m2
        omega
    · omega
  · rw [if_neg c]
    rcases h2 with ⟨a, b⟩ | a
    · obtain ⟨m, m1, m2, -⟩ := (hi j a b).mp h1
      omega
    · exact a
theorem nextOf_gen {V M : Sto} (h : WF V) (hr : RelD V M) {s i : Nat} (hs : s < (V 2 0).toNatClampNeg) (hi : i ≤ (V 4 0).toNatClampNeg) : ∃ j, lp_Mo_nextOf_4 (nI s) (fun y1 V1 => some (y1, V1)) FU (nI i) M = some (nI j, M) ∧ i ≤ j ∧ ((j < (V 4 0).toNatClampNeg ∧ sec V j = s) ∨ j = (V 4 0).toNatClampNeg) ∧ ∀ r, i ≤ r → r < j → r < (V 4 0).toNatClampNeg → ¬ sec V r = s := by
  have hr1 := h.r1
  have hs1 := h.s1
  rcases fstK (L := fun n t => lp_Mo_nextOf_4 (nI s) (fun y1 V1 => some (y1, V1)) n (nI t) M) (P := fun t => decide (sec V t = s)) (a := i) (N := (V 4 0).toNatClampNeg) (kf := fun t => some (nI t, M)) (kn := some (nI ((V 4 0).toNatClampNeg), M)) hi (by omega) (by
    intro n t _ ht
    show lp_Mo_nextOf_4 (nI s) (fun y1 V1 => some (y1, V1)) (n + 1) (nI t) M = if decide (sec V t = s) = true then some (nI t, M) else lp_Mo_nextOf_4 (nI s) (fun y1 V1 => some (y1, V1)) n (nI (t + 1)) M
    obtain ⟨sl, se⟩ := sec_lt h ht
    rw [lp_Mo_nextOf_4, hr.r0, if_neg (fun z => by have := (le_cnt h.r0 (by omega)).mp z; omega), ib_nI (show t < 600 by omega) (by decide), ck_mk, cI (by omega), hr.rs, se, nI1]
    by_cases c : sec V t = s
    · rw [if_pos (by rw [c]), if_pos (decide_eq_true c)]
    · rw [if_neg (fun z => c ((nI_eq (by omega) (by omega)).mp z)), if_neg (by rw [decide_eq_false c]; decide)]) (by
    intro n
    show lp_Mo_nextOf_4 (nI s) (fun y1 V1 => some (y1, V1)) (n + 1) (nI ((V 4 0).toNatClampNeg)) M = _
    rw [lp_Mo_nextOf_4, hr.r0, if_pos ((le_cnt h.r0 (by omega)).mpr (Nat.le_refl _))]) with ⟨t, k0, k1, k2, k3, k4⟩ | ⟨k1, k2⟩
  · exact ⟨t, k4, k0, Or.inl ⟨k1, of_decide_eq_true k2⟩, fun r a b _ => of_decide_eq_false (k3 r a b)⟩
  · exact ⟨(V 4 0).toNatClampNeg, k2, hi, Or.inr rfl, fun r a b c => of_decide_eq_false (k1 r a c)⟩
theorem next_0 {V M : Sto} (h : WF V) (hr : RelD V M) {s : Nat} (hs : s < (V 2 0).toNatClampNeg) : f_Mo_nextOf M (nI s) (-1) = some (nI (nx V s 0), M) := by
  unfold f_Mo_nextOf
  obtain ⟨j, j1, j2, j3, j4⟩ := nextOf_gen h hr hs (Nat.zero_le ((V 4 0).toNatClampNeg))
  have e : (-1 : Int32) + 1 = nI 0 := by decide
  rw [e, j1, nx_uniq (s := s) (k := 0) (i := 0) (j := j) (fun r h1 h2 => ⟨fun _ => by
    obtain ⟨m, m1, m2⟩ := Rl_at h1 h2
    exact ⟨m, Nat.zero_le _, m1, m2⟩, fun _ => Nat.zero_le _⟩) j2 j3 j4]
theorem next_s {V M : Sto} (h : WF V) (hr : RelD V M) {s k : Nat} (hs : s < (V 2 0).toNatClampNeg) (hk : k < ln V s) : f_Mo_nextOf M (nI s) (nI (rl V s k)) = some (nI (nx V s (k + 1)), M) := by
  unfold f_Mo_nextOf
  have hrl := (rl_lt hk).1
  obtain ⟨j, j1, j2, j3, j4⟩ := nextOf_gen h hr hs (show rl V s k + 1 ≤ (V 4 0).toNatClampNeg from hrl)
  rw [nI1, j1, nx_uniq (s := s) (k := k + 1) (i := rl V s k + 1) (j := j) (fun r h1 h2 => ⟨fun hle => by
    obtain ⟨m, m1, m2⟩ := Rl_at h1 h2
    refine ⟨m, ?_, m1, m2⟩
    have e2 : rl V s m = r := m2
    rcases Nat.lt_trichotomy m k with c | c | c
    · have := rl_mono c hk; omega
    · subst c; omega
    · exact c, fun ⟨m, m1, m2, m3⟩ => by
    have := rl_mono (show k < m by omega) m2
    omega⟩) j2 j3 j4]
def mL (V S : Sto) (A : Nat → Nat → Bool) (y z : Nat) : Bool := decide (S 40 y = S 40 z) && (if S 40 y = 3 then decide (V 22 y = V 22 z) else decide (S 42 y = S 42 z) && (!decide (S 40 y = 1) || (decide (S 41 y = S 41 z) || A ((S 41 y).toNatClampNeg) ((S 41 z).toNatClampNeg))))
def rL (V S : Sto) (A : Nat → Nat → Bool) (r q : Nat) : Bool := decide (V 28 r = V 28 q) && (decide (V 29 r = V 29 q) && (decide (V 31 r = V 31 q) && mL V S A (dY V r) (dY V q)))
def hl (V S : Sto) (A : Nat → Nat → Bool) (s t : Nat) : Bool := decide (ln V s = ln V t) && (List.range (ln V s)).all (fun k => rL V S A (rl V s k) (rl V t k))
def AL (V : Sto) (A : Nat → Nat → Bool) (X : Sto) : Prop := ∀ a b, a < (V 2 0).toNatClampNeg → b < (V 2 0).toNatClampNeg → X 28 (96 * a + b) = b2 (A a b)
theorem meanLike_eq {V S X : Sto} (h : WF V) (hN : NS V (inS V) S) (hM : MB V (inS V) S X) {A : Nat → Nat → Bool} (hA : AL V A X) {y z : Nat} (hy : y < (V 3 0).toNatClampNeg) (hz : z < (V 3 0).toNatClampNeg) (ay : inS V (dU V y) = true) (az : inS V (dU V z) = true) : f_Mo_meanLike X (nI y) (nI z) = some (b2 (mL V S A y z), X) := by
  have hy1 := h.y1
  have hs1 := h.s1
  obtain ⟨cy, fy⟩ := mean_eq h hN hM.n hM.r hy ay
  obtain ⟨cz', fz⟩ := mean_eq h hN hM.n hM.r hz az
  unfold f_Mo_meanLike mL
  rw [cy.so, cl_mk, cz'.so, cl_mk]
  by_cases c1 : S 40 y = S 40 z
  · rw [if_pos c1, decide_eq_true c1, Bool.true_and]
    by_cases c3 : S 40 y = 3
    · rw [if_pos c3, if_pos c3, ib_nI (show y < 400 by omega) (by decide), ib_nI (show z < 400 by omega) (by decide), ck_mk, ck_mk, cI (show y < 2 ^ 31 by omega), cI (show z < 2 ^ 31 by omega), hM.r.yn]
      by_cases d : V 22 y = V 22 z
      · rw [if_pos d, decide_eq_true d]; rfl
      · rw [if_neg d, decide_eq_false d]; rfl
    · rw [if_neg c3, if_neg c3, cy.no c3, cl_mk, cz'.no (by rw [← c1]; exact c3), cl_mk]
      simp only [jn_mk, i10, if_true, if_false, cy.se, cz'.se, cl_mk]
      have n0 : bb 0 = true := rfl
      have n1 : bb 1 = true := rfl
      by_cases c4 : S 40 y = 1
      · have c5 : S 40 z = 1 := by rw [← c1]; exact c4
        rw [if_pos c4, if_pos c5, decide_eq_true c4, Bool.not_true, Bool.false_or]
        simp only [if_pos c4]
        by_cases d : S 42 y = S 42 z
        · rw [if_pos d, decide_eq_true d, Bool.true_and]
          by_cases e : S 41 y = S 41 z
          · rw [if_pos e, decide_eq_true e]; rfl
          · rw [if_neg e, decide_eq_false e, Bool.false_or]
            have wy : ib (S 41 y) ((V 2 0).toNatClampNeg) = true := by
              rcases fy with ⟨f, -⟩ | ⟨-, f, -⟩ | ⟨f, -⟩ | ⟨f, -⟩
              · rw [c4] at f; exact absurd f (by decide)
              · exact f
              · rw [c4] at f; exact absurd f (by decide)
              · rw [c4] at f; exact absurd f (by decide)
            have wz : ib (S 41 z) ((V 2 0).toNatClampNeg) = true := by
              rcases fz with ⟨f, -⟩ | ⟨-, f, -⟩ | ⟨f, -⟩ | ⟨f, -⟩
              · rw [c5] at f; exact absurd f (by decide)
              · exact f
              · rw [c5] at f; exact absurd f (by decide)
              · rw [c5] at f; exact absurd f (by decide)
            have ly := ib_lt wy
            have lz := ib_lt wz
            have ei : (96 : Int32) * S 41 y + S 41 z = nI (96 * (S 41 y).toNatClampNeg + (S 41 z).toNatClampNeg) := by
              have e1 := nI_mul 96 ((S 41 y).toNatClampNeg)
              have e2 := nI_add (96 * (S 41 y).toNatClampNeg) ((S 41 z).toNatClampNeg)
              rw [← e1, ← ib_eq wy, ← ib_eq wz] at e2
              exact e2
            rw [ei, ib_nI (by omega) (by decide), ck_mk, cI (by omega), hA _ _ ly lz]
            cases A ((S 41 y).toNatClampNeg) ((S 41 z).toNatClampNeg) with
            | true => rw [if_neg b2t]; rfl
            | false => rw [if_pos b2f]; rfl
        · rw [if_neg d, decide_eq_false d]; rfl
      · rw [if_neg c4, if_neg c4, decide_eq_false c4, Bool.not_false, Bool.true_or, Bool.and_true]
        by_cases d : S 42 y = S 42 z
        · rw [if_pos d, decide_eq_true d]; rfl
        · rw [if_neg d, decide_eq_false d]; rfl
  · rw [if_neg c1, decide_eq_false c1]; rfl
theorem haveRel_eq {V S X : Sto} (h : WF V) (hN : NS V (inS V) S) (hM : MB V (inS V) S X) {A : Nat → Nat → Bool} (hA : AL V A X) {s t : Nat} (hs : s < (V 2 0).toNatClampNeg) (ht : t < (V 2 0).toNatClampNeg) (as : inS V ((V 15 s).toNatClampNeg) = true) (at' : inS V ((V 15 t).toNatClampNeg) = true) : f_Mo_haveLikeRelocations X (nI s) (nI t) = some (b2 (hl V S A s t), X) := by
  have hr1 := h.r1
  have hy1 := h.y1
  have l1 := ln_le h hs
  have l2 := ln_le h ht
  unfold f_Mo_haveLikeRelocations
  rw [next_0 h hM.r hs, cl_mk, next_0 h hM.r ht, cl_mk]
  have e0 : ∀ u k, k < ln V u → nx V u k = rl V u k := fun u k hk => by unfold nx; rw [if_pos hk]
  have e1 : ∀ u k, ln V u ≤ k → nx V u k = (V 4 0).toNatClampNeg := fun u k hk => by unfold nx; rw [if_neg (by omega)]
  have hge : ∀ u k, k < ln V u → ¬ V 4 0 ≤ nI (nx V u k) := fun u k hk z => by
    have := (le_cnt h.r0 (by have := nx_le (V := V) (s := u) (k := k); omega)).mp z
    rw [e0 u k hk] at this
    have := (rl_lt hk).1
    omega
  have key := forN (σ := Unit) (L := fun n k _ => lp_Mo_haveLikeRelocations_15 (nI s) (nI t) (fun V6 => some (0, V6)) (fun y1 y2 V7 => if y1 = (V7 0 20) then if y2 = (V7 0 20) then some (1, V7) else some (0, V7) else some (0, V7)) n (nI (nx V s k)) (nI (nx V t k)) X) (N := min (ln V s) (ln V t)) (Inv := fun k _ => ∀ j, j < k → rL V S A (rl V s j) (rl V t j) = true) (Q := fun r => r = some (b2 (hl V S A s t), X)) (by omega) (by
    rintro n k _ hk hI ih
    have k1 : k < ln V s := by omega
    have k2 : k < ln V t := by omega
    obtain ⟨r1, r2⟩ := rl_lt k1
    obtain ⟨q1, q2⟩ := rl_lt k2
    obtain ⟨y1, y2, y3⟩ := dY_lt h r1
    obtain ⟨z1, z2, z3⟩ := dY_lt h q1
    show lp_Mo_haveLikeRelocations_15 (nI s) (nI t) (fun V6 => some (0, V6)) (fun y1 y2 V7 => if y1 = (V7 0 20) then if y2 = (V7 0 20) then some (1, V7) else some (0, V7) else some (0, V7)) (n + 1) (nI (nx V s k)) (nI (nx V t k)) X = _
    rw [lp_Mo_haveLikeRelocations_15, hM.r.r0, if_neg (hge s k k1), if_neg (hge t k k2), e0 s k k1, e0 t k k2, ib_nI (show rl V s k < 600 by omega) (by decide), ib_nI (show rl V t k < 600 by omega) (by decide), cI (show rl V s k < 2 ^ 31 by omega), cI (show rl V t k < 2 ^ 31 by omega), hM.r.rp, hM.r.rt, hM.r.ra, hM.r.ry, y3, z3, meanLike_eq h hN hM hA y1 z1 (by rw [y2, r2]; exact as) (by rw [z2, q2]; exact at')]
    simp only [ck_mk, cl_mk, next_s h hM.r hs k1, next_s h hM.r ht k2]
    have bad : rL V S A (rl V s k) (rl V t k) = false → some ((0 : Int32), X) = some (b2 (hl V S A s t), X) := by
      intro hf
      have : hl V S A s t = false := by
        cases hh : hl V S A s t with
        | false => rfl
        | true =>
          unfold hl at hh
          rw [Bool.and_eq_true, all_range] at hh
          rw [hh.2 k k1] at hf
          cases hf
      rw [this]
      rfl
    by_cases c1 : V 28 (rl V s k) = V 28 (rl V t k)
    · rw [if_pos c1]
      by_cases c2 : V 29 (rl V s k) = V 29 (rl V t k)
      · rw [if_pos c2]
        by_cases c3 : V 31 (rl V s k) = V 31 (rl V t k)
        · rw [if_pos c3]
          cases hm : mL V S A (dY V (rl V s k)) (dY V (rl V t k)) with
          | false =>
            rw [if_pos b2f]
            exact bad (by unfold rL; rw [hm, Bool.and_false, Bool.and_false, Bool.and_false])
          | true =>
            rw [if_neg b2t]
            refine ih () (fun j hj => ?_)
            by_cases e : j = k
            · rw [e]; unfold rL; rw [hm, decide_eq_true c1, decide_eq_true c2, decide_eq_true c3]; rfl
            · exact hI j (by omega)
        · rw [if_neg c3]; exact bad (by unfold rL; rw [decide_eq_false c3, Bool.false_and, Bool.and_false, Bool.and_false])
      · rw [if_neg c2]; exact bad (by unfold rL; rw [decide_eq_false c2, Bool.false_and, Bool.and_false])
    · rw [if_neg c1]; exact bad (by unfold rL; rw [decide_eq_false c1, Bool.false_and])) (by
    rintro n _ hI
    show lp_Mo_haveLikeRelocations_15 (nI s) (nI t) (fun V6 => some (0, V6)) (fun y1 y2 V7 => if y1 = (V7 0 20) then if y2 = (V7 0 20) then some (1, V7) else some (0, V7) else some (0, V7)) (n + 1) (nI (nx V s (min (ln V s) (ln V t)))) (nI (nx V t (min (ln V s) (ln V t)))) X = _
    have er : ∀ u k, ln V u ≤ k → V 4 0 ≤ nI (nx V u k) := fun u k hk => by rw [e1 u k hk]; exact (le_cnt h.r0 (by omega)).mpr (Nat.le_refl _)
    have eeq : ∀ u k, ln V u ≤ k → nI (nx V u k) = V 4 0 := fun u k hk => by rw [e1 u k hk]; exact h.r0.symm
    have ene : ∀ u k, k < ln V u → ¬ nI (nx V u k) = V 4 0 := fun u k hk z => by
      rw [e0 u k hk, h.r0] at z
      have := (nI_eq (by have := (rl_lt hk).1; omega) (by omega)).mp z
      have := (rl_lt hk).1
      omega
    rw [lp_Mo_haveLikeRelocations_15, hM.r.r0]
    by_cases c : ln V s = ln V t
    · have hh : hl V S A s t = true := by
        unfold hl
        rw [decide_eq_true c, Bool.true_and, all_range]
        exact fun k hk => hI k (by omega)
      rw [if_pos (er s _ (by omega)), if_pos (eeq s _ (by omega)), if_pos (eeq t _ (by omega)), hh]
      rfl
    · have hh : hl V S A s t = false := by unfold hl; rw [decide_eq_false c, Bool.false_and]
      rw [hh]
      by_cases d : ln V s < ln V t
      · rw [if_pos (er s _ (by omega)), if_pos (eeq s _ (by omega)), if_neg (ene t _ (by omega))]
        rfl
      · rw [if_neg (hge s _ (by omega)), if_pos (er t _ (by omega)), if_neg (ene s _ (by omega))]
        rfl) 0 () (Nat.zero_le _) (fun j hj => absurd hj (Nat.not_lt_zero _))
  exact key
theorem mayFoldM_eq {V S X : Sto} (h : WF V) (hr : RelD V X) (hR : RM V S X) {s : Nat} (hs : s < (V 2 0).toNatClampNeg) : f_Mo_mayFold X (nI s) = some (b2 (mf V S s), X) := by
  have hs1 := h.s1
  unfold f_Mo_mayFold mf
  rw [ib_nI (show s < 96 by omega) (by decide), cI (show s < 2 ^ 31 by omega), hR.r s hs, hr.sk, hr.kp]
  simp only [ck_mk]
  by_cases c1 : S 43 s = 0
  · rw [if_pos c1, decide_eq_true c1]; rfl
  · rw [if_neg c1, decide_eq_false c1]
    by_cases c2 : V 16 s = 0
    · rw [if_pos c2, decide_eq_true c2]
      by_cases c3 : V 20 s = 0
      · rw [if_pos c3, decide_eq_true c3]; rfl
      · rw [if_neg c3, decide_eq_false c3]; rfl
    · rw [if_neg c2, decide_eq_false c2]; rfl
def wl (V : Sto) (s t : Nat) : Bool := decide (V 17 s = V 17 t) && (decide (V 18 s = V 18 t) && sW V s t)
theorem likeW_eq {V X : Sto} (h : WF V) (hr : RelD V X) {s t : Nat} (hs : s < (V 2 0).toNatClampNeg) (ht : t < (V 2 0).toNatClampNeg) (hzs : ¬ V 16 s = 2) (hzt : ¬ V 16 t = 2) : f_Mo_haveLikeWords X (nI s) (nI t) = some (b2 (wl V s t), X) := by
  have hs1 := h.s1
  have hl := h.l1
  have h22 := h.t1
  have hsz := ib_lt (h.sz s hs).1
  have ez := ib_eq (h.sz s hs).1
  unfold f_Mo_haveLikeWords wl
  rw [ib_nI (show s < 96 by omega) (by decide), ib_nI (show t < 96 by omega) (by decide), cI (show s < 2 ^ 31 by omega), cI (show t < 2 ^ 31 by omega), hr.sz, hr.al]
  simp only [ck_mk, jn_mk]
  have zero : ∀ n, lp_Mo_haveLikeWords_39 (nI s) (nI t) (fun y1 V1 => ck (bb y1) <| some (y1, V1)) (n + 1) 0 0 X = some (b2 false, X) := fun n => by
    rw [lp_Mo_haveLikeWords_39, if_pos rfl]
    rfl
  have zero' : lp_Mo_haveLikeWords_39 (nI s) (nI t) (fun y1 V1 => ck (bb y1) <| some (y1, V1)) FU 0 0 X = some (b2 false, X) := by
    have : FU = 999999 + 1 := by unfold FU; rfl
    rw [this]
    exact zero 999999
  by_cases c1 : V 17 s = V 17 t
  · rw [if_pos c1, decide_eq_true c1, Bool.true_and]
    by_cases c2 : V 18 s = V 18 t
    · rw [if_pos c2, decide_eq_true c2, Bool.true_and]
      have key := forK (σ := Int32) (L := fun n i x => lp_Mo_haveLikeWords_39 (nI s) (nI t) (fun y1 V1 => ck (bb y1) <| some (y1, V1)) n x i X) (N := (V 17 s).toNatClampNeg / 4) (Inv := fun k x => x = b2 ((List.range k).all (fun k => decide (wdv V s k = wdv V t k)))) (Q := fun r => r = some (b2 (sW V s t), X)) (by omega) (by
        rintro n k x hk hx ih
        show lp_Mo_haveLikeWords_39 (nI s) (nI t) (fun y1 V1 => ck (bb y1) <| some (y1, V1)) (n + 1) x (nI k) X = _
        rw [lp_Mo_haveLikeWords_39, hx]
        cases hb : (List.range k).all (fun k => decide (wdv V s k = wdv V t k)) with
        | false =>
          rw [if_pos b2f]
          have : sW V s t = false := by
            cases hh : sW V s t with
            | false => rfl
            | true =>
              unfold sW at hh
              rw [all_range] at hh
              rw [all_range.mpr (fun j hj => hh j (by omega))] at hb
              cases hb
          rw [this]
          rfl
        | true =>
          have fs := (h.fw s hs).2 hzs
          have ft := (h.fw t ht).2 hzt
          have f1 := ib_eq (h.fw s hs).1
          have f2 := ib_eq (h.fw t ht).1
          rw [c1] at fs hk
          have es : V 19 s + nI k = nI ((V 19 s).toNatClampNeg + k) := by
            have := nI_add ((V 19 s).toNatClampNeg) k
            rw [← f1] at this
            exact this
          have et : V 19 t + nI k = nI ((V 19 t).toNatClampNeg + k) := by
            have := nI_add ((V 19 t).toNatClampNeg) k
            rw [← f2] at this
            exact this
          have hszt : (V 17 t).toNatClampNeg < 8193 := by rw [← c1]; exact hsz
          have ezt : V 17 t = nI ((V 17 t).toNatClampNeg) := by rw [← c1]; exact ez
          rw [if_neg b2t, ib_nI (show s < 96 by omega) (by decide), ib_nI (show t < 96 by omega) (by decide), cI (show s < 2 ^ 31 by omega), cI (show t < 2 ^ 31 by omega), hr.sz, hr.fw, c1, div4 (by rw [ezt, nI_toInt (by omega)]; omega), es, et, ib_nI (show (V 19 s).toNatClampNeg + k < 100000 by omega) (by decide), ib_nI (show (V 19 t).toNatClampNeg + k < 100000 by omega) (by decide), cI (show (V 19 s).toNatClampNeg + k < 2 ^ 31 by omega), cI (show (V 19 t).toNatClampNeg + k < 2 ^ 31 by omega), hr.wd _ (show (V 19 s).toNatClampNeg + k < _ by omega), hr.wd _ (show (V 19 t).toNatClampNeg + k < _ by omega), nI1, if_neg (nI_ge hk (by omega))]
          simp only [ck_mk]
          have es2 : (List.range (k + 1)).all (fun k => decide (wdv V s k = wdv V t k)) = decide (wdv V s k = wdv V t k) := by
            rw [List.range_succ, List.all_append, hb]
            simp
          by_cases c : V 14 ((V 19 s).toNatClampNeg + k) = V 14 ((V 19 t).toNatClampNeg + k)
          · rw [if_pos c]
            exact ih 1 (by rw [es2, decide_eq_true (show wdv V s k = wdv V t k from c)]; rfl)
          · rw [if_neg c]
            exact ih 0 (by rw [es2, decide_eq_false (show ¬ wdv V s k = wdv V t k from c)]; rfl)) (by
        rintro n x hx
        show lp_Mo_haveLikeWords_39 (nI s) (nI t) (fun y1 V1 => ck (bb y1) <| some (y1, V1)) (n + 1) x (nI ((V 17 s).toNatClampNeg / 4)) X = _
        rw [lp_Mo_haveLikeWords_39, ib_nI (show s < 96 by omega) (by decide), ck_mk, cI (show s < 2 ^ 31 by omega), hr.sz, div4 (by rw [ez, nI_toInt (by omega)]; omega), if_pos (nI_le (Nat.le_refl _) (by omega)), hx, bb_b2, ck_mk, ite_self]
        rfl) 0 1 (Nat.zero_le _) rfl
      exact key
    · rw [if_neg c2, decide_eq_false c2, Bool.false_and]
      exact zero'
  · rw [if_neg c1, decide_eq_false c1, Bool.false_and]
    exact zero'
