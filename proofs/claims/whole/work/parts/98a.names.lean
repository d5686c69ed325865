/-! Names, the class's way: what each symbol gives, step by step. -/
def gB (V : Sto) (A : Nat → Bool) (b : Int32) (n y : Nat) : Bool := A (dU V y) && (!decide (V 24 y = 0) && (decide (V 23 y = b) && decide (dN V y = n)))
theorem gB_iff {V : Sto} {A : Nat → Bool} {b : Int32} {n y : Nat} : gB V A b n y = true ↔ A (dU V y) = true ∧ ¬ V 24 y = 0 ∧ V 23 y = b ∧ dN V y = n := by simp [gB]
theorem gB_f {V : Sto} {A : Nat → Bool} {b : Int32} {n y : Nat} (h : ¬ (A (dU V y) = true ∧ ¬ V 24 y = 0 ∧ V 23 y = b ∧ dN V y = n)) : gB V A b n y = false := by
  cases hh : gB V A b n y with
  | false => rfl
  | true => exact absurd (gB_iff.mp hh) h
/-- the greatest common size -/
def cz (V : Sto) (A : Nat → Bool) (n : Nat) : Nat → Nat
  | 0 => 0
  | i + 1 => if gB V A 3 n i = true then max (cz V A n i) ((V 26 i).toNatClampNeg) else cz V A n i
def Two (V : Sto) (A : Nat → Bool) (i n : Nat) : Prop := ∃ y z, y < z ∧ z < i ∧ gB V A 1 n y = true ∧ gB V A 1 n z = true
def NG (V : Sto) (A : Nat → Bool) (i n : Nat) (x : Int32) : Prop := (x = -1 ∧ ∀ y, y < i → gB V A 1 n y = false) ∨ ∃ y, y < i ∧ x = nI y ∧ gB V A 1 n y = true
def NW (V : Sto) (A : Nat → Bool) (i n : Nat) (x : Int32) : Prop := (x = -1 ∧ ∀ y, y < i → gB V A 2 n y = false) ∨ ∃ y, y < i ∧ x = nI y ∧ gB V A 2 n y = true ∧ ∀ z, z < i → gB V A 2 n z = true → dU V y ≤ dU V z
def NT (V : Sto) (A : Nat → Bool) (i : Nat) (x : Int32) : Prop := (x = -1 ∧ ∀ n, n < 200 → ¬ Two V A i n) ∨ ∃ n, n < 200 ∧ x = nI n ∧ Two V A i n ∧ ∀ m, m < n → ¬ Two V A i m
def N1 (V : Sto) (A : Nat → Bool) (i : Nat) (W : Sto) : Prop :=
  (∀ n, n < 200 → NG V A i n (W 37 n)) ∧
  (∀ n, n < 200 → NW V A i n (W 38 n)) ∧
  (∀ n, n < 200 → W 39 n = nI (cz V A n i)) ∧
  (NT V A i (W 6 5))
theorem N1.g {V : Sto} {A : Nat → Bool} {i : Nat} {W : Sto} (h : N1 V A i W) : ∀ n, n < 200 → NG V A i n (W 37 n) := h.1
theorem N1.w {V : Sto} {A : Nat → Bool} {i : Nat} {W : Sto} (h : N1 V A i W) : ∀ n, n < 200 → NW V A i n (W 38 n) := h.2.1
theorem N1.c {V : Sto} {A : Nat → Bool} {i : Nat} {W : Sto} (h : N1 V A i W) : ∀ n, n < 200 → W 39 n = nI (cz V A n i) := h.2.2.1
theorem N1.t {V : Sto} {A : Nat → Bool} {i : Nat} {W : Sto} (h : N1 V A i W) : NT V A i (W 6 5) := h.2.2.2
section NS
variable {V : Sto} {A : Nat → Bool} {i n : Nat} {x : Int32}
theorem NG.skip (h : NG V A i n x) (hf : gB V A 1 n i = false) : NG V A (i + 1) n x := by
  rcases h with ⟨h1, h2⟩ | ⟨y, h1, h2, h3⟩
  · refine Or.inl ⟨h1, fun y hy => ?_⟩
    by_cases e : y = i
    · rw [e]; exact hf
    · exact h2 y (by omega)
  · exact Or.inr ⟨y, by omega, h2, h3⟩
theorem NG.keep (h : NG V A i n x) (hx : ¬ x = -1) : NG V A (i + 1) n x := by
  rcases h with ⟨h1, h2⟩ | ⟨y, h1, h2, h3⟩
  · exact absurd h1 hx
  · exact Or.inr ⟨y, by omega, h2, h3⟩
theorem NG.new (hf : gB V A 1 n i = true) : NG V A (i + 1) n (nI i) := Or.inr ⟨i, by omega, rfl, hf⟩
theorem NW.skip (h : NW V A i n x) (hf : gB V A 2 n i = false) : NW V A (i + 1) n x := by
  rcases h with ⟨h1, h2⟩ | ⟨y, h1, h2, h3, h4⟩
  · refine Or.inl ⟨h1, fun y hy => ?_⟩
    by_cases e : y = i
    · rw [e]; exact hf
    · exact h2 y (by omega)
  · refine Or.inr ⟨y, by omega, h2, h3, fun z hz hz2 => ?_⟩
    by_cases e : z = i
    · rw [e, hf] at hz2; cases hz2
    · exact h4 z (by omega) hz2
theorem NT.skip (h : NT V A i x) (hf : ∀ m, m < 200 → gB V A 1 m i = true → ∀ y, y < i → gB V A 1 m y = false) : NT V A (i + 1) x := by
  have hs : ∀ m, m < 200 → Two V A (i + 1) m → Two V A i m := by
    rintro m hm ⟨y, z, h1, h2, h3, h4⟩
    by_cases e : z = i
    · subst e
      rw [hf m hm h4 y h1] at h3
      cases h3
    · exact ⟨y, z, h1, by omega, h3, h4⟩
  have hu : ∀ m, Two V A i m → Two V A (i + 1) m := fun m ⟨y, z, h1, h2, h3⟩ => ⟨y, z, h1, by omega, h3⟩
  rcases h with ⟨h1, h2⟩ | ⟨n, h1, h2, h3, h4⟩
  · exact Or.inl ⟨h1, fun m hm ht => h2 m hm (hs m hm ht)⟩
  · exact Or.inr ⟨n, h1, h2, hu n h3, fun m hm ht => h4 m hm (hs m (by omega) ht)⟩
theorem NT.new (h : NT V A i x) (hn : n < 200) (hf : gB V A 1 n i = true) {y : Nat} (hy : y < i) (hg : gB V A 1 n y = true) : NT V A (i + 1) (if x = -1 then nI n else if x ≤ nI n then x else nI n) := by
  have hs : ∀ m, m ≠ n → Two V A (i + 1) m → Two V A i m := by
    rintro m hm ⟨y, z, h1, h2, h3, h4⟩
    by_cases e : z = i
    · subst e
      exact absurd ((gB_iff.mp h4).2.2.2.symm.trans (gB_iff.mp hf).2.2.2) hm
    · exact ⟨y, z, h1, by omega, h3, h4⟩
  have hu : ∀ m, Two V A i m → Two V A (i + 1) m := fun m ⟨y, z, h1, h2, h3⟩ => ⟨y, z, h1, by omega, h3⟩
  have ht : Two V A (i + 1) n := ⟨y, i, hy, by omega, hg, hf⟩
  rcases h with ⟨h1, h2⟩ | ⟨k, h1, h2, h3, h4⟩
  · rw [if_pos h1]
    exact Or.inr ⟨n, hn, rfl, ht, fun m hm hm2 => h2 m (by omega) (hs m (by omega) hm2)⟩
  · rw [if_neg (by rw [h2]; exact m1_ne k (by omega))]
    by_cases c : x ≤ nI n
    · rw [if_pos c]
      rw [h2, nI_le_iff (by omega) (by omega)] at c
      exact Or.inr ⟨k, h1, h2, hu k h3, fun m hm hm2 => h4 m hm (hs m (by omega) hm2)⟩
    · rw [if_neg c]
      rw [h2, nI_le_iff (by omega) (by omega)] at c
      exact Or.inr ⟨n, hn, rfl, ht, fun m hm hm2 => h4 m (by omega) (hs m (by omega) hm2)⟩
end NS
theorem cz_le {V : Sto} (h : WF V) {A : Nat → Bool} {n : Nat} : ∀ i, i ≤ (V 3 0).toNatClampNeg → cz V A n i ≤ 8192 := by
  intro i
  induction i with
  | zero => intro _; exact Nat.zero_le _
  | succ i ih =>
    intro hi
    show (if gB V A 3 n i = true then max (cz V A n i) ((V 26 i).toNatClampNeg) else cz V A n i) ≤ 8192
    by_cases c : gB V A 3 n i = true
    · rw [if_pos c]
      have hb := (gB_iff.mp c).2.2.1
      have : (V 26 i).toNatClampNeg < 8193 := by
        rcases h.yf i (by omega) with ⟨e1, e2, -⟩ | ⟨-, e, -⟩ | ⟨-, e, -⟩ | ⟨-, -, -, e, -⟩
        · exact absurd e1 (gB_iff.mp c).2.1
        · exact absurd hb e
        · exact absurd hb e
        · exact ib_lt e
      have := ih (by omega)
      omega
    · rw [if_neg c]; exact ih (by omega)
theorem cz_pos {V : Sto} (h : WF V) {A : Nat → Bool} {n : Nat} : ∀ i, i ≤ (V 3 0).toNatClampNeg → cz V A n i % 4 = 0 := by
  intro i
  induction i with
  | zero => intro _; rfl
  | succ i ih =>
    intro hi
    show (if gB V A 3 n i = true then max (cz V A n i) ((V 26 i).toNatClampNeg) else cz V A n i) % 4 = 0
    by_cases c : gB V A 3 n i = true
    · rw [if_pos c]
      have hb := (gB_iff.mp c).2.2.1
      have : (V 26 i).toNatClampNeg % 4 = 0 := by
        rcases h.yf i (by omega) with ⟨e1, e2, -⟩ | ⟨-, e, -⟩ | ⟨-, e, -⟩ | ⟨-, -, -, -, -, e⟩
        · exact absurd e1 (gB_iff.mp c).2.1
        · exact absurd hb e
        · exact absurd hb e
        · exact e
      have := ih (by omega)
      omega
    · rw [if_neg c]; exact ih (by omega)
/-- a symbol that gives nothing -/
theorem N1.skip {V : Sto} {A : Nat → Bool} {i : Nat} {W : Sto} (h : N1 V A i W) (hf : ∀ b n, ¬ b = 0 → gB V A b n i = false) : N1 V A (i + 1) W := by
  refine ⟨fun n hn => (h.g n hn).skip (hf 1 n (by decide)), fun n hn => (h.w n hn).skip (hf 2 n (by decide)), fun n hn => ?_, h.t.skip (fun m hm hg => by rw [hf 1 m (by decide)] at hg; cases hg)⟩
  show W 39 n = nI (if gB V A 3 n i = true then _ else cz V A n i)
  rw [hf 3 n (by decide)]
  exact h.c n hn
theorem take_eq {V W : Sto} (h : WF V) (hd : Dat V W) {A : Nat → Bool} {i : Nat} (hi : i < (V 3 0).toNatClampNeg) (hN : N1 V A i W) (hA : A (dU V i) = true) (hf : ¬ V 24 i = 0) (hb : ¬ V 23 i = 0) : ∃ X, f_Na_take W (nI i) = some (0, X) ∧ Only [6, 37, 38, 39] W X ∧ N1 V A (i + 1) X := by
  have hy1 := h.y1
  have d21 := hd 21 rfl
  have d22 := hd 22 rfl
  have d23 := hd 23 rfl
  have d26 := hd 26 rfl
  have hn := h.yn i hi
  have hnl : dN V i < 200 := ib_lt hn
  obtain ⟨n0, hn0⟩ : ∃ n0, dN V i = n0 := ⟨_, rfl⟩
  have e22 : V 22 i = nI n0 := by rw [← hn0]; exact ib_eq hn
  rw [hn0] at hnl
  have hgo : ∀ b n, ¬ (V 23 i = b ∧ n = n0) → gB V A b n i = false := fun b n hh => gB_f (fun z => hh ⟨z.2.2.1, by rw [← hn0]; exact z.2.2.2.symm⟩)
  have hgy : gB V A (V 23 i) n0 i = true := gB_iff.mpr ⟨hA, hf, rfl, hn0⟩
  unfold f_Na_take
  rw [ib_nI (by omega) (by decide), ck_mk, ck_mk, cI (by omega), d23, d22, e22, d26]
  by_cases b1 : V 23 i = 1
  · rw [if_pos b1]
    unfold f_Na_takeGlobal
    rw [ib_nI (by omega) (by decide), ck_mk, cI (by omega)]
    rw [b1] at hgy
    have hc : ∀ n, n < 200 → W 39 n = nI (cz V A n (i + 1)) := fun n hnn => by
      show W 39 n = nI (if gB V A 3 n i = true then _ else cz V A n i)
      rw [hgo 3 n (fun z => by rw [b1] at z; exact absurd z.1 (by decide))]
      exact hN.c n hnn
    have hw : ∀ n, n < 200 → NW V A (i + 1) n (W 38 n) := fun n hnn => (hN.w n hnn).skip (hgo 2 n (fun z => by rw [b1] at z; exact absurd z.1 (by decide)))
    by_cases c : W 37 n0 = -1
    · rw [if_pos c, ck_mk, nm_mk, cl_mk]
      refine ⟨_, rfl, Only.refl.sw (by decide), fun n hnn => ?_, fun n hnn => ?_, fun n hnn => ?_, ?_⟩
      · rw [sw_at]
        by_cases e : n = n0
        · rw [if_pos e, e]; exact NG.new hgy
        · rw [if_neg e]; exact (hN.g n hnn).skip (hgo 1 n (fun z => e z.2))
      · rw [sw_ne (by decide)]; exact hw n hnn
      · rw [sw_ne (by decide)]; exact hc n hnn
      · rw [sw_ne (by decide)]
        refine hN.t.skip (fun m hm hg y hy => ?_)
        have hm0 : m = n0 := by rw [← hn0]; exact (gB_iff.mp hg).2.2.2.symm
        subst hm0
        rcases hN.g m hnl with ⟨z1, z2⟩ | ⟨z, z1, z2, z3⟩
        · exact z2 y hy
        · rw [z2] at c; exact absurd c (m1_ne z (by omega))
    · rw [if_neg c]
      obtain ⟨y, hy, hyg⟩ : ∃ y, y < i ∧ gB V A 1 n0 y = true := by
        rcases hN.g n0 hnl with ⟨z1, -⟩ | ⟨z, z1, -, z3⟩
        · exact absurd z1 c
        · exact ⟨z, z1, z3⟩
      have ht := hN.t.new hnl hgy hy hyg
      have hg : ∀ n, n < 200 → NG V A (i + 1) n (W 37 n) := fun n hnn => by
        by_cases e : n = n0
        · rw [e]; exact (hN.g n0 hnl).keep c
        · exact (hN.g n hnn).skip (hgo 1 n (fun z => e z.2))
      have fin : ∀ x, NT V A (i + 1) x → N1 V A (i + 1) (sw W 6 5 x) := fun x hx => by
        refine ⟨fun n hnn => ?_, fun n hnn => ?_, fun n hnn => ?_, ?_⟩
        · rw [sw_ne (by decide)]; exact hg n hnn
        · rw [sw_ne (by decide)]; exact hw n hnn
        · rw [sw_ne (by decide)]; exact hc n hnn
        · rw [sw_at, if_pos rfl]; exact hx
      by_cases c2 : W 6 5 = -1
      · rw [if_pos c2, nm_mk, cl_mk]
        rw [if_pos c2] at ht
        exact ⟨_, rfl, Only.refl.sw (by decide), fin _ ht⟩
      · rw [if_neg c2]
        rw [if_neg c2] at ht
        by_cases c3 : W 6 5 ≤ nI n0
        · rw [if_pos c3, cl_mk]
          rw [if_pos c3] at ht
          exact ⟨W, rfl, Only.refl, hg, hw, hc, ht⟩
        · rw [if_neg c3, nm_mk, cl_mk]
          rw [if_neg c3] at ht
          exact ⟨_, rfl, Only.refl.sw (by decide), fin _ ht⟩
  · rw [if_neg b1]
    have hg : ∀ n, n < 200 → NG V A (i + 1) n (W 37 n) := fun n hnn => (hN.g n hnn).skip (hgo 1 n (fun z => b1 z.1))
    have ht : NT V A (i + 1) (W 6 5) := hN.t.skip (fun m hm hg => by rw [hgo 1 m (fun z => b1 z.1)] at hg; cases hg)
    by_cases b3 : V 23 i = 3
    · rw [if_pos b3, ib_nI (by omega) (by decide)]
      simp only [ck_mk, nm_mk]
      rw [cI (by omega)]
      rw [b3] at hgy
      refine ⟨_, rfl, Only.refl.sw (by decide), fun n hnn => ?_, fun n hnn => ?_, fun n hnn => ?_, ?_⟩
      · rw [sw_ne (by decide)]; exact hg n hnn
      · rw [sw_ne (by decide)]; exact (hN.w n hnn).skip (hgo 2 n (fun z => by rw [b3] at z; exact absurd z.1 (by decide)))
      · rw [sw_at]
        show _ = nI (if gB V A 3 n i = true then max (cz V A n i) ((V 26 i).toNatClampNeg) else cz V A n i)
        by_cases e : n = n0
        · subst e
          have hv : ib (V 26 i) 8193 = true := by
            rcases h.yf i hi with ⟨e1, -⟩ | ⟨-, e, -⟩ | ⟨-, e, -⟩ | ⟨-, -, -, e, -⟩
            · exact absurd e1 hf
            · exact absurd b3 e
            · exact absurd b3 e
            · exact e
          have hvl := ib_lt hv
          have hve := ib_eq hv
          have hcl := cz_le h (A := A) (n := n) i (by omega)
          rw [if_pos rfl, if_pos hgy, hN.c n hnn]
          by_cases c : nI (cz V A n i) < V 26 i
          · rw [if_pos c]
            rw [hve, nI_lt_iff (by omega) (by omega)] at c
            rw [Nat.max_eq_right (by omega)]
            exact hve
          · rw [if_neg c]
            rw [hve, nI_lt_iff (by omega) (by omega)] at c
            rw [Nat.max_eq_left (by omega)]
        · rw [if_neg e, hgo 3 n (fun z => e z.2)]
          exact hN.c n hnn
      · rw [sw_ne (by decide)]; exact ht
    · rw [if_neg b3]
      have b2' : V 23 i = 2 := by
        rcases ib4 (h.yb i hi) with e | e | e | e
        · exact absurd e hb
        · exact absurd e b1
        · exact e
        · exact absurd e b3
      rw [b2'] at hgy
      have hc : ∀ n, n < 200 → W 39 n = nI (cz V A n (i + 1)) := fun n hnn => by
        show W 39 n = nI (if gB V A 3 n i = true then _ else cz V A n i)
        rw [hgo 3 n (fun z => b3 z.1)]
        exact hN.c n hnn
      have fin : NW V A (i + 1) n0 (nI i) → N1 V A (i + 1) (sw W 38 n0 (nI i)) := fun hx => by
        refine ⟨fun n hnn => ?_, fun n hnn => ?_, fun n hnn => ?_, ?_⟩
        · rw [sw_ne (by decide)]; exact hg n hnn
        · rw [sw_at]
          by_cases e : n = n0
          · rw [if_pos e, e]; exact hx
          · rw [if_neg e]; exact (hN.w n hnn).skip (hgo 2 n (fun z => e z.2))
        · rw [sw_ne (by decide)]; exact hc n hnn
        · rw [sw_ne (by decide)]; exact ht
      unfold f_Na_takeWeak
      rw [ib_nI (by omega) (by decide), ck_mk, cI (by omega)]
      by_cases c : W 38 n0 = -1
      · rw [if_pos c, ck_mk, nm_mk, cl_mk]
        refine ⟨_, rfl, Only.refl.sw (by decide), fin (Or.inr ⟨i, by omega, rfl, hgy, fun z hz hzg => ?_⟩)⟩
        by_cases e : z = i
        · rw [e]; exact Nat.le_refl _
        · rcases hN.w n0 hnl with ⟨-, z2⟩ | ⟨y, z1, z2, -⟩
          · rw [z2 z (by omega)] at hzg; cases hzg
          · rw [z2] at c; exact absurd c (m1_ne y (by omega))
      · rw [if_neg c]
        rcases hN.w n0 hnl with ⟨z1, -⟩ | ⟨y, z1, z2, z3, z4⟩
        · exact absurd z1 c
        rw [z2, ib_nI (show i < 400 by omega) (by decide), ib_nI (show y < 400 by omega) (by decide), cI (show i < 2 ^ 31 by omega), cI (show y < 2 ^ 31 by omega), d21]
        simp only [ck_mk]
        have hle : V 21 y ≤ V 21 i ↔ dU V y ≤ dU V i := by
          rw [ib_eq (h.yu y (by omega)), ib_eq (h.yu i hi)]
          exact nI_le_iff (ct_lt _) (ct_lt _)
        by_cases c2 : V 21 y ≤ V 21 i
        · rw [if_pos c2, cl_mk]
          refine ⟨W, rfl, Only.refl, hg, fun n hnn => ?_, hc, ht⟩
          by_cases e : n = n0
          · subst e
            refine Or.inr ⟨y, by omega, z2, z3, fun z hz hzg => ?_⟩
            by_cases e2 : z = i
            · rw [e2]; exact hle.mp c2
            · exact z4 z (by omega) hzg
          · exact (hN.w n hnn).skip (hgo 2 n (fun z => e z.2))
        · rw [if_neg c2, nm_mk, cl_mk]
          refine ⟨_, rfl, Only.refl.sw (by decide), fin (Or.inr ⟨i, by omega, rfl, hgy, fun z hz hzg => ?_⟩)⟩
          have hnle : ¬ dU V y ≤ dU V i := fun z => c2 (hle.mpr z)
          by_cases e2 : z = i
          · rw [e2]; exact Nat.le_refl _
          · have := z4 z (by omega) hzg
            omega
