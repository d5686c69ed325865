/-! Names, the reference's way. -/
section MDs
variable {V : Sto} {A : Nat → Bool} {P P' : Nat → Prop} {n k : Nat} {x : Int32}
def MD (V : Sto) (A : Nat → Bool) (P : Nat → Prop) (n : Nat) (x : Int32) : Prop :=
  (x = -1 ∧ ∀ y, y < (V 3 0).toNatClampNeg → P y → gB V A 1 n y = false ∧ gB V A 2 n y = false) ∨ (∃ y, y < (V 3 0).toNatClampNeg ∧ P y ∧ x = nI y ∧ gB V A 1 n y = true) ∨
  ((∀ y, y < (V 3 0).toNatClampNeg → P y → gB V A 1 n y = false) ∧ ∃ y, y < (V 3 0).toNatClampNeg ∧ P y ∧ x = nI y ∧ gB V A 2 n y = true ∧ ∀ z, z < (V 3 0).toNatClampNeg → P z → gB V A 2 n z = true → dU V y ≤ dU V z)
def TwoP (V : Sto) (A : Nat → Bool) (P : Nat → Prop) (n : Nat) : Prop := ∃ y z, y ≠ z ∧ y < (V 3 0).toNatClampNeg ∧ z < (V 3 0).toNatClampNeg ∧ P y ∧ P z ∧ gB V A 1 n y = true ∧ gB V A 1 n z = true
def MT (V : Sto) (A : Nat → Bool) (P : Nat → Prop) (x : Int32) : Prop := (x = 200 ∧ ∀ n, n < 200 → ¬ TwoP V A P n) ∨ ∃ n, n < 200 ∧ x = nI n ∧ TwoP V A P n ∧ ∀ m, m < n → ¬ TwoP V A P m
theorem MD.skip (hP : ∀ y, y < (V 3 0).toNatClampNeg → (P' y ↔ P y ∨ y = k)) (h : MD V A P n x) (h1 : gB V A 1 n k = false) (h2 : gB V A 2 n k = false) : MD V A P' n x := by
  rcases h with ⟨a1, a2⟩ | ⟨y, a1, a2, a3, a4⟩ | ⟨a0, y, a1, a2, a3, a4, a5⟩
  · refine Or.inl ⟨a1, fun y hy hp => ?_⟩
    rcases (hP y hy).mp hp with e | e
    · exact a2 y hy e
    · subst e; exact ⟨h1, h2⟩
  · exact Or.inr (Or.inl ⟨y, a1, (hP y a1).mpr (Or.inl a2), a3, a4⟩)
  · refine Or.inr (Or.inr ⟨fun z hz hp => ?_, y, a1, (hP y a1).mpr (Or.inl a2), a3, a4, fun z hz hp hg => ?_⟩)
    · rcases (hP z hz).mp hp with e | e
      · exact a0 z hz e
      · subst e; exact h1
    · rcases (hP z hz).mp hp with e | e
      · exact a5 z hz e hg
      · subst e; rw [h2] at hg; cases hg
theorem MD.same (hP : ∀ y, y < (V 3 0).toNatClampNeg → (P' y ↔ P y)) (h : MD V A P n x) : MD V A P' n x := by
  rcases h with ⟨a1, a2⟩ | ⟨y, a1, a2, a3, a4⟩ | ⟨a0, y, a1, a2, a3, a4, a5⟩
  · exact Or.inl ⟨a1, fun y hy hp => a2 y hy ((hP y hy).mp hp)⟩
  · exact Or.inr (Or.inl ⟨y, a1, (hP y a1).mpr a2, a3, a4⟩)
  · exact Or.inr (Or.inr ⟨fun z hz hp => a0 z hz ((hP z hz).mp hp), y, a1, (hP y a1).mpr a2, a3, a4, fun z hz hp hg => a5 z hz ((hP z hz).mp hp) hg⟩)
theorem TwoP.same (hP : ∀ y, y < (V 3 0).toNatClampNeg → (P' y ↔ P y)) : TwoP V A P' n ↔ TwoP V A P n :=
  ⟨fun ⟨y, z, a1, a2, a3, a4, a5, a6⟩ => ⟨y, z, a1, a2, a3, (hP y a2).mp a4, (hP z a3).mp a5, a6⟩, fun ⟨y, z, a1, a2, a3, a4, a5, a6⟩ => ⟨y, z, a1, a2, a3, (hP y a2).mpr a4, (hP z a3).mpr a5, a6⟩⟩
theorem MT.same (hP : ∀ y, y < (V 3 0).toNatClampNeg → (P' y ↔ P y)) (h : MT V A P x) : MT V A P' x := by
  rcases h with ⟨h1, h2⟩ | ⟨m, h1, h2, h3, h4⟩
  · exact Or.inl ⟨h1, fun n hn z => h2 n hn ((TwoP.same hP).mp z)⟩
  · exact Or.inr ⟨m, h1, h2, (TwoP.same hP).mpr h3, fun n hn z => h4 n hn ((TwoP.same hP).mp z)⟩
theorem TwoP.up (hP : ∀ y, y < (V 3 0).toNatClampNeg → (P' y ↔ P y ∨ y = k)) (h : TwoP V A P n) : TwoP V A P' n :=
  let ⟨y, z, a1, a2, a3, a4, a5, a6⟩ := h
  ⟨y, z, a1, a2, a3, (hP y a2).mpr (Or.inl a4), (hP z a3).mpr (Or.inl a5), a6⟩
theorem TwoP.dn (hP : ∀ y, y < (V 3 0).toNatClampNeg → (P' y ↔ P y ∨ y = k)) (hk : gB V A 1 n k = true → ∀ y, y < (V 3 0).toNatClampNeg → P y → gB V A 1 n y = false) (h : TwoP V A P' n) : TwoP V A P n := by
  obtain ⟨y, z, a1, a2, a3, a4, a5, a6, a7⟩ := h
  rcases (hP y a2).mp a4 with e | e
  · rcases (hP z a3).mp a5 with f | f
    · exact ⟨y, z, a1, a2, a3, e, f, a6, a7⟩
    · subst f
      rw [hk a7 y a2 e] at a6
      cases a6
  · rcases (hP z a3).mp a5 with f | f
    · subst e
      rw [hk a6 z a3 f] at a7
      cases a7
    · exact absurd (e.trans f.symm) a1
theorem MT.skip (hP : ∀ y, y < (V 3 0).toNatClampNeg → (P' y ↔ P y ∨ y = k)) (h : MT V A P x) (hk : ∀ m, m < 200 → gB V A 1 m k = true → ∀ y, y < (V 3 0).toNatClampNeg → P y → gB V A 1 m y = false) : MT V A P' x := by
  rcases h with ⟨h1, h2⟩ | ⟨m, h1, h2, h3, h4⟩
  · exact Or.inl ⟨h1, fun n hn z => h2 n hn (z.dn hP (hk n hn))⟩
  · exact Or.inr ⟨m, h1, h2, h3.up hP, fun n hn z => h4 n hn (z.dn hP (hk n (by omega)))⟩
theorem MT.new (hP : ∀ y, y < (V 3 0).toNatClampNeg → (P' y ↔ P y ∨ y = k)) (hkk : k < (V 3 0).toNatClampNeg) (hnp : ¬ P k) (h : MT V A P x) (hn : n < 200) (hg : gB V A 1 n k = true) {y : Nat} (hy : y < (V 3 0).toNatClampNeg) (hp : P y) (hyg : gB V A 1 n y = true) : MT V A P' (if x ≤ nI n then x else nI n) := by
  have ht : TwoP V A P' n := ⟨y, k, fun e => hnp (e ▸ hp), hy, hkk, (hP y hy).mpr (Or.inl hp), (hP k hkk).mpr (Or.inr rfl), hyg, hg⟩
  have hs : ∀ m, m ≠ n → TwoP V A P' m → TwoP V A P m := fun m hm z => z.dn hP (fun hg2 => absurd ((gB_iff.mp hg2).2.2.2.symm.trans (gB_iff.mp hg).2.2.2) hm)
  rcases h with ⟨h1, h2⟩ | ⟨m, h1, h2, h3, h4⟩
  · rw [if_neg (by rw [h1]; show ¬ nI 200 ≤ nI n; rw [nI_le_iff (by omega) (by omega)]; omega)]
    exact Or.inr ⟨n, hn, rfl, ht, fun m hm z => h2 m (by omega) (hs m (by omega) z)⟩
  · by_cases c : x ≤ nI n
    · rw [if_pos c]
      rw [h2, nI_le_iff (by omega) (by omega)] at c
      exact Or.inr ⟨m, h1, h2, h3.up hP, fun j hj z => h4 j hj (hs j (by omega) z)⟩
    · rw [if_neg c]
      rw [h2, nI_le_iff (by omega) (by omega)] at c
      exact Or.inr ⟨n, hn, rfl, ht, fun j hj z => h4 j (by omega) (hs j (by omega) z)⟩
end MDs
def vis (V : Sto) (u k y : Nat) : Prop := dU V y < u ∨ (dU V y = u ∧ y < k)
def MD1 (V : Sto) (A : Nat → Bool) (P : Nat → Prop) (x : Int32) (W : Sto) : Prop :=
  (∀ n, n < 200 → MD V A P n (W 21 n)) ∧
  (MT V A P x)
theorem MD1.d {V : Sto} {A : Nat → Bool} {P : Nat → Prop} {x : Int32} {W : Sto} (h : MD1 V A P x W) : ∀ n, n < 200 → MD V A P n (W 21 n) := h.1
theorem MD1.t {V : Sto} {A : Nat → Bool} {P : Nat → Prop} {x : Int32} {W : Sto} (h : MD1 V A P x W) : MT V A P x := h.2
theorem MD1.same {V W : Sto} {A : Nat → Bool} {P P' : Nat → Prop} {x : Int32} (hP : ∀ y, y < (V 3 0).toNatClampNeg → (P' y ↔ P y)) (h : MD1 V A P x W) : MD1 V A P' x W := ⟨fun n hn => (h.d n hn).same hP, h.t.same hP⟩
theorem def132 {V M : Sto} (h : WF V) {A : Nat → Bool} (hM : MI V A M) {u : Nat} (hu : u < (V 1 0).toNatClampNeg) {x : Int32} (hx : MD1 V A (vis V u 0) x M) {k : Int32 → Sto → RT} {Q : RT → Prop} (hk : ∀ x W, Only [21] M W → MD1 V A (vis V (u + 1) 0) x W → Q (k x W)) : Q (lp_Mo_define_132 (nI u) k FU x 0 M) := by
  have hy1 := h.y1
  have hu1 := h.u1
  have key := forK (σ := Int32 × Sto) (L := fun n i T => lp_Mo_define_132 (nI u) k n T.1 i T.2) (N := (V 3 0).toNatClampNeg) (Inv := fun i T => Only [21] M T.2 ∧ MD1 V A (vis V u i) T.1 T.2) (Q := Q) (by omega) (by
    rintro m i ⟨x, T⟩ hi ⟨h0, h1⟩ ih
    simp only at h0 h1
    have hr : RelD V T := hM.r.only h0 (by decide)
    have e20 : T 20 u = b2 (A u) := by rw [h0 20 (by decide)]; exact hM.u u hu
    have hn := h.yn i hi
    obtain ⟨n0, hn0⟩ : ∃ n0, dN V i = n0 := ⟨_, rfl⟩
    have hnl : n0 < 200 := by rw [← hn0]; exact ib_lt hn
    have e22 : V 22 i = nI n0 := by rw [← hn0]; exact ib_eq hn
    have eu : V 21 i = nI u ↔ dU V i = u := by
      rw [ib_eq (h.yu i hi)]
      exact nI_eq (ct_lt _) (by omega)
    have ef : T 10 i = 1 ↔ V 24 i = 0 := by rw [hr.yf i hi]; exact srt1'
    show Q (lp_Mo_define_132 (nI u) k (m + 1) x (nI i) T)
    rw [lp_Mo_define_132, hr.y0, if_neg (fun z => by have := (le_cnt h.y0 (by omega)).mp z; omega), ib_nI (show i < 400 by omega) (by decide), ib_nI (show u < 24 by omega) (by decide), cI (show i < 2 ^ 31 by omega), cI (show u < 2 ^ 31 by omega), hr.yu, hr.yn, hr.yb, e20, e22, ib_nI hnl (by decide), cI (show n0 < 2 ^ 31 by omega), nI1]
    simp only [ck_mk, jn_mk, nm_mk, i10, if_true, if_false]
    by_cases c1 : V 21 i = nI u
    · rw [if_pos c1]
      have hdu := eu.mp c1
      have hP : ∀ y, y < (V 3 0).toNatClampNeg → (vis V u (i + 1) y ↔ vis V u i y ∨ y = i) := by
        intro y _
        unfold vis
        constructor
        · rintro (e | ⟨e, f⟩)
          · exact Or.inl (Or.inl e)
          · by_cases g : y = i
            · exact Or.inr g
            · exact Or.inl (Or.inr ⟨e, by omega⟩)
        · rintro ((e | ⟨e, f⟩) | e)
          · exact Or.inl e
          · exact Or.inr ⟨e, by omega⟩
          · subst e; exact Or.inr ⟨hdu, by omega⟩
      have hnp : ¬ vis V u i i := by
        rintro (e | ⟨e, f⟩) <;> omega
      have skip : (∀ n, gB V A 1 n i = false ∧ gB V A 2 n i = false) → Q (lp_Mo_define_132 (nI u) k m x (nI (i + 1)) T) := fun hf => ih (x, T) ⟨h0, fun n hnn => (h1.d n hnn).skip hP (hf n).1 (hf n).2, h1.t.skip hP (fun m hm hg => by rw [(hf m).1] at hg; cases hg)⟩
      cases hA : A u with
      | false =>
        rw [if_pos b2f]
        exact skip (fun n => ⟨gB_f (fun z => by rw [hdu, hA] at z; cases z.1), gB_f (fun z => by rw [hdu, hA] at z; cases z.1)⟩)
      | true =>
        rw [if_neg b2t]
        by_cases c2 : V 24 i = 0
        · rw [if_pos (ef.mpr c2)]
          exact skip (fun n => ⟨gB_f (fun z => z.2.1 c2), gB_f (fun z => z.2.1 c2)⟩)
        · rw [if_neg (fun z => c2 (ef.mp z))]
          have hgo : ∀ b n, ¬ (V 23 i = b ∧ n = n0) → gB V A b n i = false := fun b n hh => gB_f (fun z => hh ⟨z.2.2.1, by rw [← hn0]; exact z.2.2.2.symm⟩)
          have hgy : ∀ b, V 23 i = b → gB V A b n0 i = true := fun b hb => gB_iff.mpr ⟨by rw [hdu]; exact hA, c2, hb, hn0⟩
          -- a global one stands already
          have two : ∀ y, y < (V 3 0).toNatClampNeg → vis V u i y → T 21 n0 = nI y → gB V A 1 n0 y = true → V 23 i = 1 → ∀ x', x' = (if x ≤ nI n0 then x else nI n0) → Q (lp_Mo_define_132 (nI u) k m x' (nI (i + 1)) (sw T 21 n0 (T 21 n0))) := by
            intro y hy hp hty hyg hb x' hx'
            subst hx'
            refine ih (_, _) ⟨h0.sw (by decide), fun n hnn => ?_, h1.t.new hP hi hnp hnl (hgy 1 hb) hy hp hyg⟩
            show MD V A _ n (sw T 21 n0 (T 21 n0) 21 n)
            rw [sw_at]
            by_cases e : n = n0
            · rw [if_pos e, e]
              exact Or.inr (Or.inl ⟨y, hy, (hP y hy).mpr (Or.inl hp), hty, hyg⟩)
            · rw [if_neg e]; exact (h1.d n hnn).skip hP (hgo 1 n (fun z => e z.2)) (hgo 2 n (fun z => e z.2))
          -- none stands yet
          have one : (∀ y, y < (V 3 0).toNatClampNeg → vis V u i y → gB V A 1 n0 y = false) → V 23 i = 1 → Q (lp_Mo_define_132 (nI u) k m x (nI (i + 1)) (sw T 21 n0 (nI i))) := by
            intro hno hb
            refine ih (x, _) ⟨h0.sw (by decide), fun n hnn => ?_, h1.t.skip hP (fun m hm hg y hy hp => ?_)⟩
            · show MD V A _ n (sw T 21 n0 (nI i) 21 n)
              rw [sw_at]
              by_cases e : n = n0
              · rw [if_pos e, e]
                exact Or.inr (Or.inl ⟨i, hi, (hP i hi).mpr (Or.inr rfl), rfl, hgy 1 hb⟩)
              · rw [if_neg e]; exact (h1.d n hnn).skip hP (hgo 1 n (fun z => e z.2)) (hgo 2 n (fun z => e z.2))
            · have : m = n0 := by rw [← hn0]; exact (gB_iff.mp hg).2.2.2.symm
              subst this
              exact hno y hy hp
          have tskip : V 23 i ≠ 1 → MT V A (vis V u (i + 1)) x := fun hb => h1.t.skip hP (fun m hm hg => absurd (gB_iff.mp hg).2.2.1 hb)
          have neither : ¬ V 23 i = 1 → ¬ V 23 i = 2 → Q (lp_Mo_define_132 (nI u) k m x (nI (i + 1)) T) := fun h1 h2 => skip (fun n => ⟨hgo 1 n (fun z => h1 z.1), hgo 2 n (fun z => h2 z.1)⟩)
          -- a weak one beside others
          have weak : V 23 i = 2 → ¬ T 21 n0 = -1 → Q (lp_Mo_define_132 (nI u) k m x (nI (i + 1)) T) := by
            intro hb hne
            refine ih (x, T) ⟨h0, fun n hnn => ?_, tskip (by rw [hb]; decide)⟩
            show MD V A _ n (T 21 n)
            by_cases e : n = n0
            · subst e
              rcases h1.d n hnn with ⟨a1, a2⟩ | ⟨y, a1, a2, a3, a4⟩ | ⟨a0, y, a1, a2, a3, a4, a5⟩
              · exact absurd a1 hne
              · exact Or.inr (Or.inl ⟨y, a1, (hP y a1).mpr (Or.inl a2), a3, a4⟩)
              · refine Or.inr (Or.inr ⟨fun z hz hp => ?_, y, a1, (hP y a1).mpr (Or.inl a2), a3, a4, fun z hz hp hg => ?_⟩)
                · rcases (hP z hz).mp hp with f | f
                  · exact a0 z hz f
                  · subst f; exact hgo 1 _ (fun z => by rw [hb] at z; exact absurd z.1 (by decide))
                · rcases (hP z hz).mp hp with f | f
                  · exact a5 z hz f hg
                  · subst f
                    rw [hdu]
                    rcases a2 with a2 | a2 <;> omega
            · exact (h1.d n hnn).skip hP (hgo 1 n (fun z => e z.2)) (hgo 2 n (fun z => e z.2))
          rcases h1.d n0 hnl with ⟨a1, a2⟩ | ⟨y, a1, a2, a3, a4⟩ | ⟨a0, y, a1, a2, a3, a4, a5⟩
          · rw [if_pos a1]
            by_cases b1 : V 23 i = 1
            · rw [if_pos b1]
              exact one (fun y hy hp => (a2 y hy hp).1) b1
            · rw [if_neg b1]
              by_cases b2' : V 23 i = 2
              · rw [if_pos b2', if_pos a1]
                refine ih (x, _) ⟨h0.sw (by decide), fun n hnn => ?_, tskip b1⟩
                show MD V A _ n (sw T 21 n0 (nI i) 21 n)
                rw [sw_at]
                by_cases e : n = n0
                · subst e
                  rw [if_pos rfl]
                  refine Or.inr (Or.inr ⟨fun z hz hp => ?_, i, hi, (hP i hi).mpr (Or.inr rfl), rfl, hgy 2 b2', fun z hz hp hg => ?_⟩)
                  · rcases (hP z hz).mp hp with f | f
                    · exact (a2 z hz f).1
                    · subst f; exact hgo 1 _ (fun z => b1 z.1)
                  · rcases (hP z hz).mp hp with f | f
                    · rw [(a2 z hz f).2] at hg; cases hg
                    · subst f; exact Nat.le_refl _
                · rw [if_neg e]; exact (h1.d n hnn).skip hP (hgo 1 n (fun z => e z.2)) (hgo 2 n (fun z => e z.2))
              · rw [if_neg b2']
                exact neither b1 b2'
          · have hne : ¬ T 21 n0 = -1 := by rw [a3]; exact m1_ne y (by omega)
            rw [if_neg hne, a3, ib_nI (show y < 400 by omega) (by decide), cI (show y < 2 ^ 31 by omega), if_pos (gB_iff.mp a4).2.2.1]
            simp only [ck_mk]
            by_cases b1 : V 23 i = 1
            · rw [if_pos b1]
              have htw := two y a1 a2 a3 a4 b1
              rw [a3] at htw
              by_cases c3 : x ≤ nI n0
              · rw [if_pos c3]
                exact htw x (by rw [if_pos c3])
              · rw [if_neg c3]
                exact htw (nI n0) (by rw [if_neg c3])
            · rw [if_neg b1]
              rw [a3] at hne
              by_cases b2' : V 23 i = 2
              · rw [if_pos b2', if_neg hne]
                exact weak b2' (by rw [a3]; exact hne)
              · rw [if_neg b2']
                exact neither b1 b2'
          · have hne : ¬ T 21 n0 = -1 := by rw [a3]; exact m1_ne y (by omega)
            rw [if_neg hne, a3, ib_nI (show y < 400 by omega) (by decide), cI (show y < 2 ^ 31 by omega), if_neg (by rw [(gB_iff.mp a4).2.2.1]; decide)]
            simp only [ck_mk]
            by_cases b1 : V 23 i = 1
            · rw [if_pos b1]
              exact one a0 b1
            · rw [if_neg b1]
              rw [a3] at hne
              by_cases b2' : V 23 i = 2
              · rw [if_pos b2', if_neg hne]
                exact weak b2' (by rw [a3]; exact hne)
              · rw [if_neg b2']
                exact neither b1 b2'
    · rw [if_neg c1]
      refine ih (x, T) ⟨h0, h1.same (fun y _ => ?_)⟩
      unfold vis
      constructor
      · rintro (e | ⟨e, f⟩)
        · exact Or.inl e
        · by_cases g : y = i
          · subst g; exact absurd (eu.mpr e) c1
          · exact Or.inr ⟨e, by omega⟩
      · rintro (e | ⟨e, f⟩)
        · exact Or.inl e
        · exact Or.inr ⟨e, by omega⟩) (by
    rintro m ⟨x, T⟩ ⟨h0, h1⟩
    simp only at h0 h1
    have hr : RelD V T := hM.r.only h0 (by decide)
    show Q (lp_Mo_define_132 (nI u) k (m + 1) x (nI ((V 3 0).toNatClampNeg)) T)
    rw [lp_Mo_define_132, hr.y0, if_pos ((le_cnt h.y0 (by omega)).mpr (Nat.le_refl _))]
    refine hk x T h0 (h1.same (fun y hy => ?_))
    unfold vis
    constructor
    · rintro (e | ⟨e, f⟩)
      · by_cases g : dU V y = u
        · exact Or.inr ⟨g, hy⟩
        · exact Or.inl (by omega)
      · omega
    · rintro (e | ⟨e, f⟩) <;> exact Or.inl (by omega)) 0 (x, M) (Nat.zero_le _) ⟨Only.refl, hx⟩
  exact key
