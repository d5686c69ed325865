/-! The pure level: loops, frames, the data that were told. -/
/-- a loop: each step ends it as Q wants, or goes round with less left -/
theorem loopQ {σ ρ : Type} {L : Nat → σ → ρ} {Inv : Nat → σ → Prop} {Q : ρ → Prop} (hstep : ∀ n m S, Inv m S → Q (L (n + 1) S) ∨ ∃ m' S', m' < m ∧ L (n + 1) S = L n S' ∧ Inv m' S') : ∀ m n S, Inv m S → m < n → Q (L n S) := by
  intro m
  induction m using Nat.strongRecOn with
  | ind m ih =>
    intro n S hI hn
    cases n with
    | zero => omega
    | succ n =>
      rcases hstep n m S hI with h | ⟨m', S', hlt, he, hI'⟩
      · exact h
      · rw [he]
        exact ih m' hlt n S' hI' (by omega)
/-- a loop over i .. N-1 -/
theorem forQ {σ ρ : Type} {L : Nat → Int32 → σ → ρ} {Inv : Nat → σ → Prop} {Q : ρ → Prop} {N : Nat} (hN : N < 900000)
    (hstep : ∀ n i S, i < N → Inv i S → Q (L (n + 1) (nI i) S) ∨ ∃ S', L (n + 1) (nI i) S = L n (nI (i + 1)) S' ∧ Inv (i + 1) S')
    (hend : ∀ n S, Inv N S → Q (L (n + 1) (nI N) S)) : ∀ i S, i ≤ N → Inv i S → Q (L FU (nI i) S) := by
  intro i S hi hI
  have key := loopQ (σ := Nat × σ) (L := fun n p => L n (nI p.1) p.2) (Inv := fun m p => p.1 ≤ N ∧ m = N - p.1 ∧ Inv p.1 p.2) (Q := Q) (by
    rintro n m ⟨i, S⟩ ⟨h1, h2, h3⟩
    rcases Nat.lt_or_ge i N with h | h
    · rcases hstep n i S h h3 with h4 | ⟨S', h4, h5⟩
      · exact Or.inl h4
      · exact Or.inr ⟨N - (i + 1), (i + 1, S'), by omega, h4, by show i + 1 ≤ N; omega, rfl, h5⟩
    · have h4 : i = N := by show i = N; simp only at h1; omega
      subst h4
      exact Or.inl (hend n S h3)) (N - i) FU (i, S) ⟨hi, rfl, hI⟩ (by unfold FU; omega)
  exact key
theorem nI1 (n : Nat) : nI n + 1 = nI (n + 1) := (nI_succ n).symm
theorem nI_le_iff {a b : Nat} (ha : a < 2 ^ 31) (hb : b < 2 ^ 31) : nI a ≤ nI b ↔ a ≤ b := by
  rw [Int32.le_iff_toInt_le, nI_toInt ha, nI_toInt hb]
  omega
theorem nI_lt_iff {a b : Nat} (ha : a < 2 ^ 31) (hb : b < 2 ^ 31) : nI a < nI b ↔ a < b := by
  rw [Int32.lt_iff_toInt_lt, nI_toInt ha, nI_toInt hb]
  omega
theorem nI_ne {a b : Nat} (h : a ≠ b) (ha : a < 2 ^ 31) (hb : b < 2 ^ 31) : nI a ≠ nI b := fun e => h ((nI_eq ha hb).mp e)
theorem m1_ne (n : Nat) (h : n < 2 ^ 31) : nI n ≠ -1 := by
  intro e
  have := congrArg Int32.toInt e
  rw [nI_toInt h] at this
  have e2 : (-1 : Int32).toInt = -1 := by decide
  omega
theorem ib_iff {x : Int32} {n : Nat} : ib x n = true ↔ 0 ≤ x.toInt ∧ x.toInt < n := by
  unfold ib
  rw [Bool.not_eq_true', Bool.or_eq_false_iff, decide_eq_false_iff_not, decide_eq_false_iff_not, Int32.lt_iff_toInt_lt]
  have e0 : (0 : Int32).toInt = 0 := by decide
  rw [e0]
  constructor
  · rintro ⟨h1, h2⟩
    have := clI (x := x) (by omega)
    omega
  · rintro ⟨h1, h2⟩
    have := clI h1
    omega
theorem ib_eq {x : Int32} {n : Nat} (h : ib x n = true) : x = nI x.toNatClampNeg := by
  obtain ⟨h1, h2⟩ := ib_iff.mp h
  have hb := bdI x
  have := clI h1
  refine eqI ?_
  rw [nI_toInt (by omega)]
  omega
theorem ib_lt {x : Int32} {n : Nat} (h : ib x n = true) : x.toNatClampNeg < n := by
  obtain ⟨h1, h2⟩ := ib_iff.mp h
  have := clI h1
  omega
theorem ib_mono {x : Int32} {n m : Nat} (h : ib x n = true) (hm : n ≤ m) : ib x m = true := by
  rw [ib_iff] at h ⊢
  omega
theorem ib_ne {x : Int32} {n : Nat} (h : ib x n = true) : x ≠ -1 := by
  intro e
  rw [ib_iff] at h
  have e2 : (-1 : Int32).toInt = -1 := by decide
  rw [e, e2] at h
  omega
theorem ib_inj {x y : Int32} {n m : Nat} (hx : ib x n = true) (hy : ib y m = true) (h : x.toNatClampNeg = y.toNatClampNeg) : x = y := by rw [ib_eq hx, ib_eq hy, h]
theorem bb_of {x : Int32} (h : bb x = true) : x = 0 ∨ x = 1 := by
  unfold bb at h
  simpa using h
theorem bb_ne {x : Int32} (h : bb x = true) (h0 : ¬ x = 0) : x = 1 := (bb_of h).resolve_left h0
/-- W differs from V in the cells of L alone -/
def Only (L : List Nat) (V W : Sto) : Prop := ∀ q, q ∉ L → W q = V q
theorem Only.refl {L : List Nat} {V : Sto} : Only L V V := fun _ _ => rfl
theorem Only.sw {L : List Nat} {V W : Sto} {q i : Nat} {x : Int32} (hq : q ∈ L) (h : Only L V W) : Only L V (sw W q i x) := fun p hp => by
  have : p ≠ q := fun e => hp (e ▸ hq)
  show (if p = q then _ else W p) = V p
  rw [if_neg this]
  exact h p hp
theorem Only.trans {L : List Nat} {V W X : Sto} (h1 : Only L V W) (h2 : Only L W X) : Only L V X := fun q hq => (h2 q hq).trans (h1 q hq)
theorem Only.mono {L L' : List Nat} {V W : Sto} (h : Only L V W) (hl : ∀ q ∈ L, q ∈ L') : Only L' V W := fun q hq => h q (fun z => hq (hl q z))
theorem sw_at (V : Sto) (q i j : Nat) (x : Int32) : sw V q i x q j = if j = i then x else V q j := by simp [sw, upd]
theorem sw_ne {V : Sto} {q i p : Nat} {x : Int32} (h : p ≠ q) : sw V q i x p = V p := by
  show (if p = q then _ else V p) = V p
  rw [if_neg h]
abbrev nu (V : Sto) : Nat := (V 1 0).toNatClampNeg
abbrev ns (V : Sto) : Nat := (V 2 0).toNatClampNeg
abbrev ny (V : Sto) : Nat := (V 3 0).toNatClampNeg
abbrev nr (V : Sto) : Nat := (V 4 0).toNatClampNeg
abbrev ct (x : Int32) : Nat := x.toNatClampNeg
/-- the data that were told, as every call leaves them -/
def WF (V : Sto) : Prop :=
  (V 1 0 = nI ((V 1 0).toNatClampNeg)) ∧
  ((V 1 0).toNatClampNeg ≤ 24) ∧
  (V 2 0 = nI ((V 2 0).toNatClampNeg)) ∧
  ((V 2 0).toNatClampNeg ≤ 96) ∧
  (V 3 0 = nI ((V 3 0).toNatClampNeg)) ∧
  ((V 3 0).toNatClampNeg ≤ 400) ∧
  (V 4 0 = nI ((V 4 0).toNatClampNeg)) ∧
  ((V 4 0).toNatClampNeg ≤ 600) ∧
  (∀ u, u < (V 1 0).toNatClampNeg → V 12 u = -1 ∨ ib (V 12 u) 4 = true) ∧
  (∀ s, s < (V 2 0).toNatClampNeg → ib (V 15 s) ((V 1 0).toNatClampNeg) = true) ∧
  (∀ s, s < (V 2 0).toNatClampNeg → ib (V 16 s) 3 = true) ∧
  (∀ s, s < (V 2 0).toNatClampNeg → ib (V 17 s) 8193 = true ∧ (V 17 s).toNatClampNeg % 4 = 0) ∧
  (∀ s, s < (V 2 0).toNatClampNeg → ∃ e, 2 ≤ e ∧ e ≤ 12 ∧ V 18 s = nI (2 ^ e)) ∧
  (∀ s, s < (V 2 0).toNatClampNeg → bb (V 20 s) = true) ∧
  (V 1000 14 = nI ((V 1000 14).toNatClampNeg)) ∧
  (1024 ≤ (V 1000 14).toNatClampNeg ∧ (V 1000 14).toNatClampNeg ≤ 100000) ∧
  (V 2 1 = nI ((V 2 1).toNatClampNeg)) ∧
  ((V 2 1).toNatClampNeg ≤ 400000) ∧
  (V 2 2 = nI ((V 2 2).toNatClampNeg)) ∧
  ((V 2 2).toNatClampNeg ≤ (V 1000 14).toNatClampNeg ∧ 4 * (V 2 2).toNatClampNeg ≤ (V 2 1).toNatClampNeg) ∧
  (∀ s, s < (V 2 0).toNatClampNeg → ib (V 19 s) 100001 = true ∧ (V 16 s ≠ 2 → (V 19 s).toNatClampNeg + (V 17 s).toNatClampNeg / 4 ≤ (V 2 2).toNatClampNeg)) ∧
  (∀ s t, s < t → t < (V 2 0).toNatClampNeg → V 16 s ≠ 2 → (V 19 s).toNatClampNeg + (V 17 s).toNatClampNeg / 4 ≤ (V 19 t).toNatClampNeg) ∧
  (∀ y, y < (V 3 0).toNatClampNeg → ib (V 21 y) ((V 1 0).toNatClampNeg) = true) ∧
  (∀ y, y < (V 3 0).toNatClampNeg → ib (V 22 y) 200 = true) ∧
  (∀ y, y < (V 3 0).toNatClampNeg → ib (V 23 y) 4 = true) ∧
  (∀ y, y < (V 3 0).toNatClampNeg → (V 24 y = 0 ∧ (V 23 y = 1 ∨ V 23 y = 2) ∧ V 25 y = -1) ∨ (V 24 y = 1 ∧ V 23 y ≠ 3 ∧ ib (V 25 y) ((V 2 0).toNatClampNeg) = true ∧ V 15 ((V 25 y).toNatClampNeg) = V 21 y) ∨ (V 24 y = 2 ∧ V 23 y ≠ 3 ∧ V 25 y = -1) ∨ (V 24 y = 3 ∧ V 23 y = 3 ∧ V 25 y = -1 ∧ ib (V 26 y) 8193 = true ∧ 4 ≤ (V 26 y).toNatClampNeg ∧ (V 26 y).toNatClampNeg % 4 = 0)) ∧
  (∀ y z, y < z → z < (V 3 0).toNatClampNeg → V 21 y = V 21 z → V 22 y = V 22 z → V 23 y ≠ 0 → V 23 z = 0) ∧
  (∀ r, r < (V 4 0).toNatClampNeg → ib (V 27 r) ((V 2 0).toNatClampNeg) = true ∧ V 16 ((V 27 r).toNatClampNeg) ≠ 2) ∧
  (∀ r, r < (V 4 0).toNatClampNeg → ib (V 28 r) ((V 17 ((V 27 r).toNatClampNeg)).toNatClampNeg) = true ∧ (V 28 r).toNatClampNeg % 4 = 0) ∧
  (∀ r, r < (V 4 0).toNatClampNeg → ib (V 29 r) 6 = true) ∧
  (∀ r, r < (V 4 0).toNatClampNeg → ib (V 30 r) ((V 3 0).toNatClampNeg) = true ∧ V 21 ((V 30 r).toNatClampNeg) = V 15 ((V 27 r).toNatClampNeg)) ∧
  (V 0 11 = -1 ∨ ib (V 0 11) 200 = true) ∧
  (bb (V 0 12) = true) ∧
  (bb (V 0 13) = true)
theorem WF.u0 {V : Sto} (h : WF V) : V 1 0 = nI ((V 1 0).toNatClampNeg) := h.1
theorem WF.u1 {V : Sto} (h : WF V) : (V 1 0).toNatClampNeg ≤ 24 := h.2.1
theorem WF.s0 {V : Sto} (h : WF V) : V 2 0 = nI ((V 2 0).toNatClampNeg) := h.2.2.1
theorem WF.s1 {V : Sto} (h : WF V) : (V 2 0).toNatClampNeg ≤ 96 := h.2.2.2.1
theorem WF.y0 {V : Sto} (h : WF V) : V 3 0 = nI ((V 3 0).toNatClampNeg) := h.2.2.2.2.1
theorem WF.y1 {V : Sto} (h : WF V) : (V 3 0).toNatClampNeg ≤ 400 := h.2.2.2.2.2.1
theorem WF.r0 {V : Sto} (h : WF V) : V 4 0 = nI ((V 4 0).toNatClampNeg) := h.2.2.2.2.2.2.1
theorem WF.r1 {V : Sto} (h : WF V) : (V 4 0).toNatClampNeg ≤ 600 := h.2.2.2.2.2.2.2.1
theorem WF.arc {V : Sto} (h : WF V) : ∀ u, u < (V 1 0).toNatClampNeg → V 12 u = -1 ∨ ib (V 12 u) 4 = true := h.2.2.2.2.2.2.2.2.1
theorem WF.su {V : Sto} (h : WF V) : ∀ s, s < (V 2 0).toNatClampNeg → ib (V 15 s) ((V 1 0).toNatClampNeg) = true := h.2.2.2.2.2.2.2.2.2.1
theorem WF.sk {V : Sto} (h : WF V) : ∀ s, s < (V 2 0).toNatClampNeg → ib (V 16 s) 3 = true := h.2.2.2.2.2.2.2.2.2.2.1
theorem WF.sz {V : Sto} (h : WF V) : ∀ s, s < (V 2 0).toNatClampNeg → ib (V 17 s) 8193 = true ∧ (V 17 s).toNatClampNeg % 4 = 0 := h.2.2.2.2.2.2.2.2.2.2.2.1
theorem WF.al {V : Sto} (h : WF V) : ∀ s, s < (V 2 0).toNatClampNeg → ∃ e, 2 ≤ e ∧ e ≤ 12 ∧ V 18 s = nI (2 ^ e) := h.2.2.2.2.2.2.2.2.2.2.2.2.1
theorem WF.kp {V : Sto} (h : WF V) : ∀ s, s < (V 2 0).toNatClampNeg → bb (V 20 s) = true := h.2.2.2.2.2.2.2.2.2.2.2.2.2.1
theorem WF.l0 {V : Sto} (h : WF V) : V 1000 14 = nI ((V 1000 14).toNatClampNeg) := h.2.2.2.2.2.2.2.2.2.2.2.2.2.2.1
theorem WF.l1 {V : Sto} (h : WF V) : 1024 ≤ (V 1000 14).toNatClampNeg ∧ (V 1000 14).toNatClampNeg ≤ 100000 := h.2.2.2.2.2.2.2.2.2.2.2.2.2.2.2.1
theorem WF.b0 {V : Sto} (h : WF V) : V 2 1 = nI ((V 2 1).toNatClampNeg) := h.2.2.2.2.2.2.2.2.2.2.2.2.2.2.2.2.1
theorem WF.b1 {V : Sto} (h : WF V) : (V 2 1).toNatClampNeg ≤ 400000 := h.2.2.2.2.2.2.2.2.2.2.2.2.2.2.2.2.2.1
theorem WF.t0 {V : Sto} (h : WF V) : V 2 2 = nI ((V 2 2).toNatClampNeg) := h.2.2.2.2.2.2.2.2.2.2.2.2.2.2.2.2.2.2.1
theorem WF.t1 {V : Sto} (h : WF V) : (V 2 2).toNatClampNeg ≤ (V 1000 14).toNatClampNeg ∧ 4 * (V 2 2).toNatClampNeg ≤ (V 2 1).toNatClampNeg := h.2.2.2.2.2.2.2.2.2.2.2.2.2.2.2.2.2.2.2.1
theorem WF.fw {V : Sto} (h : WF V) : ∀ s, s < (V 2 0).toNatClampNeg → ib (V 19 s) 100001 = true ∧ (V 16 s ≠ 2 → (V 19 s).toNatClampNeg + (V 17 s).toNatClampNeg / 4 ≤ (V 2 2).toNatClampNeg) := h.2.2.2.2.2.2.2.2.2.2.2.2.2.2.2.2.2.2.2.2.1
theorem WF.fd {V : Sto} (h : WF V) : ∀ s t, s < t → t < (V 2 0).toNatClampNeg → V 16 s ≠ 2 → (V 19 s).toNatClampNeg + (V 17 s).toNatClampNeg / 4 ≤ (V 19 t).toNatClampNeg := h.2.2.2.2.2.2.2.2.2.2.2.2.2.2.2.2.2.2.2.2.2.1
theorem WF.yu {V : Sto} (h : WF V) : ∀ y, y < (V 3 0).toNatClampNeg → ib (V 21 y) ((V 1 0).toNatClampNeg) = true := h.2.2.2.2.2.2.2.2.2.2.2.2.2.2.2.2.2.2.2.2.2.2.1
theorem WF.yn {V : Sto} (h : WF V) : ∀ y, y < (V 3 0).toNatClampNeg → ib (V 22 y) 200 = true := h.2.2.2.2.2.2.2.2.2.2.2.2.2.2.2.2.2.2.2.2.2.2.2.1
theorem WF.yb {V : Sto} (h : WF V) : ∀ y, y < (V 3 0).toNatClampNeg → ib (V 23 y) 4 = true := h.2.2.2.2.2.2.2.2.2.2.2.2.2.2.2.2.2.2.2.2.2.2.2.2.1
theorem WF.yf {V : Sto} (h : WF V) : ∀ y, y < (V 3 0).toNatClampNeg → (V 24 y = 0 ∧ (V 23 y = 1 ∨ V 23 y = 2) ∧ V 25 y = -1) ∨ (V 24 y = 1 ∧ V 23 y ≠ 3 ∧ ib (V 25 y) ((V 2 0).toNatClampNeg) = true ∧ V 15 ((V 25 y).toNatClampNeg) = V 21 y) ∨ (V 24 y = 2 ∧ V 23 y ≠ 3 ∧ V 25 y = -1) ∨ (V 24 y = 3 ∧ V 23 y = 3 ∧ V 25 y = -1 ∧ ib (V 26 y) 8193 = true ∧ 4 ≤ (V 26 y).toNatClampNeg ∧ (V 26 y).toNatClampNeg % 4 = 0) := h.2.2.2.2.2.2.2.2.2.2.2.2.2.2.2.2.2.2.2.2.2.2.2.2.2.1
theorem WF.uq {V : Sto} (h : WF V) : ∀ y z, y < z → z < (V 3 0).toNatClampNeg → V 21 y = V 21 z → V 22 y = V 22 z → V 23 y ≠ 0 → V 23 z = 0 := h.2.2.2.2.2.2.2.2.2.2.2.2.2.2.2.2.2.2.2.2.2.2.2.2.2.2.1
theorem WF.rs {V : Sto} (h : WF V) : ∀ r, r < (V 4 0).toNatClampNeg → ib (V 27 r) ((V 2 0).toNatClampNeg) = true ∧ V 16 ((V 27 r).toNatClampNeg) ≠ 2 := h.2.2.2.2.2.2.2.2.2.2.2.2.2.2.2.2.2.2.2.2.2.2.2.2.2.2.2.1
theorem WF.rp {V : Sto} (h : WF V) : ∀ r, r < (V 4 0).toNatClampNeg → ib (V 28 r) ((V 17 ((V 27 r).toNatClampNeg)).toNatClampNeg) = true ∧ (V 28 r).toNatClampNeg % 4 = 0 := h.2.2.2.2.2.2.2.2.2.2.2.2.2.2.2.2.2.2.2.2.2.2.2.2.2.2.2.2.1
theorem WF.rt {V : Sto} (h : WF V) : ∀ r, r < (V 4 0).toNatClampNeg → ib (V 29 r) 6 = true := h.2.2.2.2.2.2.2.2.2.2.2.2.2.2.2.2.2.2.2.2.2.2.2.2.2.2.2.2.2.1
theorem WF.ry {V : Sto} (h : WF V) : ∀ r, r < (V 4 0).toNatClampNeg → ib (V 30 r) ((V 3 0).toNatClampNeg) = true ∧ V 21 ((V 30 r).toNatClampNeg) = V 15 ((V 27 r).toNatClampNeg) := h.2.2.2.2.2.2.2.2.2.2.2.2.2.2.2.2.2.2.2.2.2.2.2.2.2.2.2.2.2.2.1
theorem WF.en {V : Sto} (h : WF V) : V 0 11 = -1 ∨ ib (V 0 11) 200 = true := h.2.2.2.2.2.2.2.2.2.2.2.2.2.2.2.2.2.2.2.2.2.2.2.2.2.2.2.2.2.2.2.1
theorem WF.fo {V : Sto} (h : WF V) : bb (V 0 12) = true := h.2.2.2.2.2.2.2.2.2.2.2.2.2.2.2.2.2.2.2.2.2.2.2.2.2.2.2.2.2.2.2.2.1
theorem WF.gr {V : Sto} (h : WF V) : bb (V 0 13) = true := h.2.2.2.2.2.2.2.2.2.2.2.2.2.2.2.2.2.2.2.2.2.2.2.2.2.2.2.2.2.2.2.2.2
/-- the sorts of the reference beside the class's forms -/
def srt (x : Int32) : Int32 := if x = 1 then 0 else if x = 0 then 1 else x
/-- the reference's data are the class's -/
def RelD (V M : Sto) : Prop :=
  (M 0 1 = V 1 0) ∧
  (M 0 3 = V 2 0) ∧
  (M 0 10 = V 2 1) ∧
  (M 0 11 = V 2 2) ∧
  (M 0 13 = V 3 0) ∧
  (M 0 20 = V 4 0) ∧
  (M 0 26 = V 0 11) ∧
  (M 0 27 = V 0 12) ∧
  (M 0 28 = V 0 13) ∧
  (M 1 = V 12) ∧
  (M 2 = V 15) ∧
  (M 3 = V 16) ∧
  (M 4 = V 17) ∧
  (M 5 = V 18) ∧
  (M 6 = V 19) ∧
  (M 7 = V 20) ∧
  (∀ k, k < (V 2 2).toNatClampNeg → M 8 k = V 14 k) ∧
  (M 9 = V 21) ∧
  (∀ y, y < (V 3 0).toNatClampNeg → M 10 y = srt (V 24 y)) ∧
  (M 11 = V 25) ∧
  (M 12 = V 26) ∧
  (M 13 = V 22) ∧
  (M 14 = V 23) ∧
  (M 15 = V 27) ∧
  (M 16 = V 28) ∧
  (M 17 = V 29) ∧
  (M 18 = V 30) ∧
  (M 19 = V 31)
theorem RelD.u0 {V M : Sto} (h : RelD V M) : M 0 1 = V 1 0 := h.1
theorem RelD.s0 {V M : Sto} (h : RelD V M) : M 0 3 = V 2 0 := h.2.1
theorem RelD.b0 {V M : Sto} (h : RelD V M) : M 0 10 = V 2 1 := h.2.2.1
theorem RelD.t0 {V M : Sto} (h : RelD V M) : M 0 11 = V 2 2 := h.2.2.2.1
theorem RelD.y0 {V M : Sto} (h : RelD V M) : M 0 13 = V 3 0 := h.2.2.2.2.1
theorem RelD.r0 {V M : Sto} (h : RelD V M) : M 0 20 = V 4 0 := h.2.2.2.2.2.1
theorem RelD.en {V M : Sto} (h : RelD V M) : M 0 26 = V 0 11 := h.2.2.2.2.2.2.1
theorem RelD.fo {V M : Sto} (h : RelD V M) : M 0 27 = V 0 12 := h.2.2.2.2.2.2.2.1
theorem RelD.gr {V M : Sto} (h : RelD V M) : M 0 28 = V 0 13 := h.2.2.2.2.2.2.2.2.1
theorem RelD.arc {V M : Sto} (h : RelD V M) : M 1 = V 12 := h.2.2.2.2.2.2.2.2.2.1
theorem RelD.su {V M : Sto} (h : RelD V M) : M 2 = V 15 := h.2.2.2.2.2.2.2.2.2.2.1
theorem RelD.sk {V M : Sto} (h : RelD V M) : M 3 = V 16 := h.2.2.2.2.2.2.2.2.2.2.2.1
theorem RelD.sz {V M : Sto} (h : RelD V M) : M 4 = V 17 := h.2.2.2.2.2.2.2.2.2.2.2.2.1
theorem RelD.al {V M : Sto} (h : RelD V M) : M 5 = V 18 := h.2.2.2.2.2.2.2.2.2.2.2.2.2.1
theorem RelD.fw {V M : Sto} (h : RelD V M) : M 6 = V 19 := h.2.2.2.2.2.2.2.2.2.2.2.2.2.2.1
theorem RelD.kp {V M : Sto} (h : RelD V M) : M 7 = V 20 := h.2.2.2.2.2.2.2.2.2.2.2.2.2.2.2.1
theorem RelD.wd {V M : Sto} (h : RelD V M) : ∀ k, k < (V 2 2).toNatClampNeg → M 8 k = V 14 k := h.2.2.2.2.2.2.2.2.2.2.2.2.2.2.2.2.1
theorem RelD.yu {V M : Sto} (h : RelD V M) : M 9 = V 21 := h.2.2.2.2.2.2.2.2.2.2.2.2.2.2.2.2.2.1
theorem RelD.yf {V M : Sto} (h : RelD V M) : ∀ y, y < (V 3 0).toNatClampNeg → M 10 y = srt (V 24 y) := h.2.2.2.2.2.2.2.2.2.2.2.2.2.2.2.2.2.2.1
theorem RelD.ys {V M : Sto} (h : RelD V M) : M 11 = V 25 := h.2.2.2.2.2.2.2.2.2.2.2.2.2.2.2.2.2.2.2.1
theorem RelD.yv {V M : Sto} (h : RelD V M) : M 12 = V 26 := h.2.2.2.2.2.2.2.2.2.2.2.2.2.2.2.2.2.2.2.2.1
theorem RelD.yn {V M : Sto} (h : RelD V M) : M 13 = V 22 := h.2.2.2.2.2.2.2.2.2.2.2.2.2.2.2.2.2.2.2.2.2.1
theorem RelD.yb {V M : Sto} (h : RelD V M) : M 14 = V 23 := h.2.2.2.2.2.2.2.2.2.2.2.2.2.2.2.2.2.2.2.2.2.2.1
theorem RelD.rs {V M : Sto} (h : RelD V M) : M 15 = V 27 := h.2.2.2.2.2.2.2.2.2.2.2.2.2.2.2.2.2.2.2.2.2.2.2.1
theorem RelD.rp {V M : Sto} (h : RelD V M) : M 16 = V 28 := h.2.2.2.2.2.2.2.2.2.2.2.2.2.2.2.2.2.2.2.2.2.2.2.2.1
theorem RelD.rt {V M : Sto} (h : RelD V M) : M 17 = V 29 := h.2.2.2.2.2.2.2.2.2.2.2.2.2.2.2.2.2.2.2.2.2.2.2.2.2.1
theorem RelD.ry {V M : Sto} (h : RelD V M) : M 18 = V 30 := h.2.2.2.2.2.2.2.2.2.2.2.2.2.2.2.2.2.2.2.2.2.2.2.2.2.2.1
theorem RelD.ra {V M : Sto} (h : RelD V M) : M 19 = V 31 := h.2.2.2.2.2.2.2.2.2.2.2.2.2.2.2.2.2.2.2.2.2.2.2.2.2.2.2
