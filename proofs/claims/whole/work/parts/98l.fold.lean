/-! Least members of classes. -/
def IsMin (n : Nat) (E : Nat → Nat → Prop) (L : Nat → Nat) : Prop := ∀ s, s < n → L s ≤ s ∧ E (L s) s ∧ ∀ t, t < L s → ¬ E t s
def Eqv (n : Nat) (E : Nat → Nat → Prop) : Prop :=
  (∀ s, s < n → E s s) ∧
  (∀ s t, s < n → t < n → E s t → E t s) ∧
  (∀ s t u, s < n → t < n → u < n → E s t → E t u → E s u)
theorem Eqv.r {n : Nat} {E : Nat → Nat → Prop} (h : Eqv n E) : ∀ s, s < n → E s s := h.1
theorem Eqv.s {n : Nat} {E : Nat → Nat → Prop} (h : Eqv n E) : ∀ s t, s < n → t < n → E s t → E t s := h.2.1
theorem Eqv.t {n : Nat} {E : Nat → Nat → Prop} (h : Eqv n E) : ∀ s t u, s < n → t < n → u < n → E s t → E t u → E s u := h.2.2
theorem IsMin.iff {n : Nat} {E : Nat → Nat → Prop} {L : Nat → Nat} (h : IsMin n E L) (e : Eqv n E) {s t : Nat} (hs : s < n) (ht : t < n) : L s = L t ↔ E s t := by
  obtain ⟨a1, a2, a3⟩ := h s hs
  obtain ⟨b1, b2, b3⟩ := h t ht
  constructor
  · intro z
    rw [z] at a2
    exact e.t s (L t) t hs (by omega) ht (e.s _ _ (by omega) hs a2) b2
  · intro z
    rcases Nat.lt_trichotomy (L s) (L t) with c | c | c
    · exact absurd (e.t _ _ _ (by omega) hs ht a2 z) (b3 _ c)
    · exact c
    · exact absurd (e.t _ _ _ (by omega) ht hs b2 (e.s _ _ hs ht z)) (a3 _ c)
theorem IsMin.mono {n m : Nat} {E : Nat → Nat → Prop} {L : Nat → Nat} (h : IsMin n E L) (hm : m ≤ n) : IsMin m E L := fun s hs => h s (by omega)
theorem Eqv.mono {n m : Nat} {E : Nat → Nat → Prop} (h : Eqv n E) (hm : m ≤ n) : Eqv m E := ⟨fun s hs => h.r s (by omega), fun s t hs ht => h.s s t (by omega) (by omega), fun s t u hs ht hu => h.t s t u (by omega) (by omega) (by omega)⟩
theorem IsMin.self {n : Nat} {E : Nat → Nat → Prop} {L : Nat → Nat} (h : IsMin n E L) (e : Eqv n E) {s : Nat} (hs : s < n) : L (L s) = L s := by
  obtain ⟨a1, a2, a3⟩ := h s hs
  exact (h.iff e (by omega) hs).mpr a2
theorem min_step {n i : Nat} {E : Nat → Nat → Prop} {L : Nat → Nat} (e : Eqv n E) (hi : i < n) (h : IsMin i E L) {a t : Nat} (hta : t ≤ i) (hlow : ∀ j, j < a → ¬ E j i) (hno : ∀ j, a ≤ j → j < t → ¬ (L j = j ∧ E j i)) : ∀ j, j < t → ¬ E j i := by
  intro j hj hE
  obtain ⟨a1, a2, a3⟩ := h j (by omega)
  have hm : L (L j) = L j := h.self (e.mono (by omega)) (by omega)
  have hE2 : E (L j) i := e.t _ _ _ (by omega) (by omega) hi a2 hE
  by_cases c : L j < a
  · exact hlow _ c hE2
  · exact hno (L j) (by omega) (by omega) ⟨hm, hE2⟩
theorem sR_iff {V T : Sto} {r q : Nat} : sR V T r q = true ↔ V 28 r = V 28 q ∧ V 29 r = V 29 q ∧ V 31 r = V 31 q ∧ T 40 (dY V r) = T 40 (dY V q) ∧ T 42 (dY V r) = T 42 (dY V q) := by simp [sR]
theorem look_iff {V T : Sto} {s t : Nat} : look V T s t = true ↔ V 17 s = V 17 t ∧ V 18 s = V 18 t ∧ (∀ k, k < (V 17 s).toNatClampNeg / 4 → wdv V s k = wdv V t k) ∧ ln V s = ln V t ∧ ∀ k, k < ln V s → sR V T (rl V s k) (rl V t k) = true := by
  unfold look lkR sW
  rw [Bool.and_eq_true, Bool.and_eq_true, Bool.and_eq_true, Bool.and_eq_true, all_range, all_range]
  simp only [decide_eq_true_eq]
theorem sT_iff {V T : Sto} {s t : Nat} : sT V T s t = true ↔ ∀ k, k < ln V s → lm T (dY V (rl V s k)) = lm T (dY V (rl V t k)) := by
  unfold sT
  rw [all_range]
  simp only [decide_eq_true_eq]
def E0 (V S : Sto) (s t : Nat) : Prop := s = t ∨ (¬ V 0 12 = 0 ∧ mf V S s = true ∧ mf V S t = true ∧ look V S s t = true)
theorem look_refl {V S : Sto} {s : Nat} : look V S s s = true := look_iff.mpr ⟨rfl, rfl, fun _ _ => rfl, rfl, fun _ _ => sR_iff.mpr ⟨rfl, rfl, rfl, rfl, rfl⟩⟩
theorem look_symm {V S : Sto} {s t : Nat} (h : look V S s t = true) : look V S t s = true := by
  obtain ⟨a, b, c, d, e⟩ := look_iff.mp h
  refine look_iff.mpr ⟨a.symm, b.symm, fun k hk => (c k (by rw [a]; exact hk)).symm, d.symm, fun k hk => ?_⟩
  obtain ⟨p, q, r, u, v⟩ := sR_iff.mp (e k (by omega))
  exact sR_iff.mpr ⟨p.symm, q.symm, r.symm, u.symm, v.symm⟩
theorem look_trans {V S : Sto} {s t u : Nat} (h : look V S s t = true) (g : look V S t u = true) : look V S s u = true := by
  obtain ⟨a, b, c, d, e⟩ := look_iff.mp h
  obtain ⟨a', b', c', d', e'⟩ := look_iff.mp g
  refine look_iff.mpr ⟨a.trans a', b.trans b', fun k hk => (c k hk).trans (c' k (by rw [← a]; exact hk)), d.trans d', fun k hk => ?_⟩
  obtain ⟨p, q, r, x, y⟩ := sR_iff.mp (e k hk)
  obtain ⟨p', q', r', x', y'⟩ := sR_iff.mp (e' k (by omega))
  exact sR_iff.mpr ⟨p.trans p', q.trans q', r.trans r', x.trans x', y.trans y'⟩
theorem E0_eqv (V S : Sto) (n : Nat) : Eqv n (E0 V S) := by
  refine ⟨fun s _ => Or.inl rfl, ?_, ?_⟩
  · rintro s t _ _ (e | ⟨a, b, c, d⟩)
    · exact Or.inl e.symm
    · exact Or.inr ⟨a, c, b, look_symm d⟩
  · rintro s t u _ _ _ (e | ⟨a, b, c, d⟩) h
    · rw [e]; exact h
    · rcases h with e | ⟨a', b', c', d'⟩
      · rw [← e]; exact Or.inr ⟨a, b, c, d⟩
      · exact Or.inr ⟨a, b, c', look_trans d d'⟩
theorem E0_ln {V S : Sto} {s t : Nat} (h : E0 V S s t) : ln V s = ln V t := by
  rcases h with e | ⟨-, -, -, d⟩
  · rw [e]
  · exact (look_iff.mp d).2.2.2.1
/-- a likeness that holds by itself -/
def Post (V S : Sto) (R : Nat → Nat → Prop) : Prop := ∀ s t, R s t → s < (V 2 0).toNatClampNeg ∧ t < (V 2 0).toNatClampNeg ∧ ¬ V 0 12 = 0 ∧ mf V S s = true ∧ mf V S t = true ∧ look V S s t = true ∧ ∀ k, k < ln V s → (S 40 (dY V (rl V s k)) = 1 → S 41 (dY V (rl V s k)) = S 41 (dY V (rl V t k)) ∨ R ((S 41 (dY V (rl V s k))).toNatClampNeg) ((S 41 (dY V (rl V t k))).toNatClampNeg)) ∧ (S 40 (dY V (rl V s k)) = 3 → S 41 (dY V (rl V s k)) = S 41 (dY V (rl V t k)))
abbrev MR (V S : Sto) : Prop := ∀ r, r < nr V → ¬ S 43 (sec V r) = 0 → MF V (inS V) S (dY V r)
def EI (V S : Sto) (E : Nat → Nat → Prop) (T : Sto) : Prop :=
  (Eqv ((V 2 0).toNatClampNeg) E) ∧
  (∀ s, s < (V 2 0).toNatClampNeg → T 46 s = nI ((T 46 s).toNatClampNeg)) ∧
  (IsMin ((V 2 0).toNatClampNeg) E (fun s => (T 46 s).toNatClampNeg)) ∧
  (∀ s t, s < (V 2 0).toNatClampNeg → t < (V 2 0).toNatClampNeg → E s t → E0 V S s t) ∧
  (∀ R, Post V S R → ∀ s t, R s t → E s t)
theorem EI.e {V S : Sto} {E : Nat → Nat → Prop} {T : Sto} (h : EI V S E T) : Eqv ((V 2 0).toNatClampNeg) E := h.1
theorem EI.n {V S : Sto} {E : Nat → Nat → Prop} {T : Sto} (h : EI V S E T) : ∀ s, s < (V 2 0).toNatClampNeg → T 46 s = nI ((T 46 s).toNatClampNeg) := h.2.1
theorem EI.m {V S : Sto} {E : Nat → Nat → Prop} {T : Sto} (h : EI V S E T) : IsMin ((V 2 0).toNatClampNeg) E (fun s => (T 46 s).toNatClampNeg) := h.2.2.1
theorem EI.b {V S : Sto} {E : Nat → Nat → Prop} {T : Sto} (h : EI V S E T) : ∀ s t, s < (V 2 0).toNatClampNeg → t < (V 2 0).toNatClampNeg → E s t → E0 V S s t := h.2.2.2.1
theorem EI.p {V S : Sto} {E : Nat → Nat → Prop} {T : Sto} (h : EI V S E T) : ∀ R, Post V S R → ∀ s t, R s t → E s t := h.2.2.2.2
theorem EI.iff {V S T : Sto} {E : Nat → Nat → Prop} (h : EI V S E T) {s t : Nat} (hs : s < (V 2 0).toNatClampNeg) (ht : t < (V 2 0).toNatClampNeg) : T 46 s = T 46 t ↔ E s t := by
  have := h.m.iff h.e hs ht
  rw [← this]
  constructor
  · intro z; rw [z]
  · intro z; rw [h.n s hs, h.n t ht, z]
theorem mf_congr {V S T : Sto} (h : T 43 = S 43) (s : Nat) : mf V T s = mf V S s := by unfold mf; rw [h]
theorem look_congr {V S T : Sto} (h40 : T 40 = S 40) (h42 : T 42 = S 42) (s t : Nat) : look V T s t = look V S s t := by unfold look lkR sR; rw [h40, h42]
/-- the first partition -/
theorem fold_first {V S : Sto} (h : WF V) (hd : Dat V S) (ho : OrdQ V S) {k : Sto → RT} {Q : RT → Prop} (hk : ∀ T, Only [46] S T → EI V S (E0 V S) T → Q (k T)) : Q (lp_Fo_settle_2 (V 0 12) k FU 0 S) := by
  have hs1 := h.s1
  refine forK (L := lp_Fo_settle_2 (V 0 12) k) (N := (V 2 0).toNatClampNeg) (Inv := fun i T => Only [46] S T ∧ (∀ s, s < i → T 46 s = nI ((T 46 s).toNatClampNeg)) ∧ IsMin i (E0 V S) (fun s => (T 46 s).toNatClampNeg)) (Q := Q) (by omega) ?_ ?_ 0 S (Nat.zero_le _) ⟨Only.refl, fun s hs => absurd hs (Nat.not_lt_zero _), fun s hs => absurd hs (Nat.not_lt_zero _)⟩
  · rintro n i T hi ⟨t1, t2, t3⟩ ih
    have hdT : Dat V T := hd.only t1 (by decide)
    have hoT : OrdQ V T := ho.keep (t1 32 (by decide)) (t1 33 (by decide))
    have e40 := t1 40 (by decide)
    have e42 := t1 42 (by decide)
    have e43 := t1 43 (by decide)
    have put : ∀ x, x ≤ i → E0 V S x i → (∀ j, j < x → ¬ E0 V S j i) → Q (lp_Fo_settle_2 (V 0 12) k n (nI (i + 1)) (sw T 46 i (nI x))) := by
      intro x hx1 hx2 hx3
      have e46 : ∀ s, sw T 46 i (nI x) 46 s = if s = i then nI x else T 46 s := fun s => sw_at _ _ _ _ _
      refine ih _ ⟨t1.sw (by decide), fun s hs => ?_, fun s hs => ?_⟩
      · rw [e46]
        by_cases c : s = i
        · rw [if_pos c, cI (by omega)]
        · rw [if_neg c]; exact t2 s (by omega)
      · show (sw T 46 i (nI x) 46 s).toNatClampNeg ≤ s ∧ E0 V S ((sw T 46 i (nI x) 46 s).toNatClampNeg) s ∧ ∀ t, t < (sw T 46 i (nI x) 46 s).toNatClampNeg → ¬ E0 V S t s
        rw [e46]
        by_cases c : s = i
        · rw [if_pos c, cI (by omega), c]; exact ⟨hx1, hx2, hx3⟩
        · rw [if_neg c]; exact t3 s (by omega)
    rw [lp_Fo_settle_2, hdT 2 rfl, if_neg (fun z => by have := (le_cnt h.s0 (by omega)).mp z; omega), ib_nI (show i < 96 by omega) (by decide), mayFold_eq h hdT hi, cI (by omega), nI1]
    simp only [ck_mk, nm_mk, cl_mk]
    by_cases c : V 0 12 = 0
    · rw [if_pos c]
      exact put i (Nat.le_refl _) (Or.inl rfl) (fun j hj z => by
        rcases z with z | ⟨z, -⟩
        · omega
        · exact z c)
    · rw [if_neg c]
      cases hm : mf V T i with
      | false =>
        rw [if_pos b2f]
        refine put i (Nat.le_refl _) (Or.inl rfl) (fun j hj z => ?_)
        rcases z with z | ⟨-, -, z, -⟩
        · omega
        · rw [mf_congr e43] at hm; rw [hm] at z; cases z
      | true =>
        rw [if_neg b2t]
        have hm' : mf V S i = true := by rw [← mf_congr e43]; exact hm
        have key := fstK (L := fun n t => lp_Fo_firstOfSameLook_2 (nI i) (fun y1 V3 => some (y1, V3)) (fun V4 => some (nI i, V4)) n (nI t) T) (P := fun t => decide ((T 46 t).toNatClampNeg = t) && (mf V S t && look V S t i)) (a := 0) (N := i) (kf := fun t => some (nI t, T)) (kn := some (nI i, T)) (Nat.zero_le _) (by omega) (by
          intro n t _ ht
          show lp_Fo_firstOfSameLook_2 (nI i) (fun y1 V3 => some (y1, V3)) (fun V4 => some (nI i, V4)) (n + 1) (nI t) T = if (decide ((T 46 t).toNatClampNeg = t) && (mf V S t && look V S t i)) = true then some (nI t, T) else lp_Fo_firstOfSameLook_2 (nI i) (fun y1 V3 => some (y1, V3)) (fun V4 => some (nI i, V4)) n (nI (t + 1)) T
          rw [lp_Fo_firstOfSameLook_2, if_neg (nI_ge ht (by omega)), ib_nI (show t < 96 by omega) (by decide), ck_mk, cI (by omega), mayFold_eq h hdT (show t < _ by omega), nI1, cl_mk, mf_congr e43]
          have ht2 := t2 t ht
          have hle := (t3 t ht).1
          simp only at hle
          by_cases c1 : (T 46 t).toNatClampNeg = t
          · rw [if_pos (by rw [ht2, c1]), decide_eq_true c1, Bool.true_and]
            cases hmt : mf V S t with
            | false => rw [if_pos b2f, Bool.false_and, if_neg (by decide)]
            | true =>
              rw [if_neg b2t, looks_eq h hdT hoT (by omega) hi (mf_text hmt).2.1 (mf_text hm').2.1, cl_mk, look_congr e40 e42, Bool.true_and]
              cases look V S t i with
              | false => rw [if_pos b2f, if_neg (by decide)]
              | true => rw [if_neg b2t, if_pos rfl]
          · rw [if_neg (fun z => c1 (by rw [z, cI (by omega)])), decide_eq_false c1, Bool.false_and, if_neg (by decide)]) (by
          intro n
          show lp_Fo_firstOfSameLook_2 (nI i) (fun y1 V3 => some (y1, V3)) (fun V4 => some (nI i, V4)) (n + 1) (nI i) T = _
          rw [lp_Fo_firstOfSameLook_2, if_pos (nI_le (Nat.le_refl _) (by omega))])
        have hP : ∀ j, j < i → (decide ((T 46 j).toNatClampNeg = j) && (mf V S j && look V S j i)) = false → ¬ ((T 46 j).toNatClampNeg = j ∧ E0 V S j i) := by
          rintro j hj hf ⟨z1, z2⟩
          rcases z2 with z2 | ⟨-, z3, -, z5⟩
          · omega
          · rw [decide_eq_true z1, z3, z5] at hf; cases hf
        unfold f_Fo_firstOfSameLook
        rcases key with ⟨t, -, k1, k2, k3, k4⟩ | ⟨k1, k2⟩
        · have k4' : lp_Fo_firstOfSameLook_2 (nI i) (fun y1 V3 => some (y1, V3)) (fun V4 => some (nI i, V4)) FU 0 T = some (nI t, T) := k4
          rw [k4', cl_mk]
          rw [Bool.and_eq_true, Bool.and_eq_true] at k2
          refine put t (by omega) (Or.inr ⟨c, k2.2.1, hm', k2.2.2⟩) ?_
          exact min_step (a := 0) (E0_eqv V S ((V 2 0).toNatClampNeg)) hi t3 (by omega) (fun j hj => absurd hj (Nat.not_lt_zero _)) (fun j _ hj => hP j (by omega) (k3 j (Nat.zero_le _) hj))
        · have k2' : lp_Fo_firstOfSameLook_2 (nI i) (fun y1 V3 => some (y1, V3)) (fun V4 => some (nI i, V4)) FU 0 T = some (nI i, T) := k2
          rw [k2', cl_mk]
          refine put i (Nat.le_refl _) (Or.inl rfl) ?_
          exact min_step (a := 0) (E0_eqv V S ((V 2 0).toNatClampNeg)) hi t3 (Nat.le_refl _) (fun j hj => absurd hj (Nat.not_lt_zero _)) (fun j _ hj => hP j hj (k1 j (Nat.zero_le _) hj))
  · rintro n T ⟨t1, t2, t3⟩
    have hdT : Dat V T := hd.only t1 (by decide)
    rw [lp_Fo_settle_2, hdT 2 rfl, if_pos ((le_cnt h.s0 (by omega)).mpr (Nat.le_refl _))]
    refine hk T t1 ⟨E0_eqv V S _, t2, t3, fun s t _ _ z => z, fun R hR s t hst => ?_⟩
    obtain ⟨-, -, a, b, c, d, -⟩ := hR s t hst
    exact Or.inr ⟨a, b, c, d⟩
