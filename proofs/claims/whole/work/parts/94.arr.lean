/-! Which units are in: as sets, and the class's steps. -/
/-- a loop: each step may lean on the rounds that are left -/
theorem loopK {σ ρ : Type} {L : Nat → σ → ρ} {Inv : Nat → σ → Prop} {Q : ρ → Prop} (hstep : ∀ n m S, Inv m S → (∀ m' S', m' < m → Inv m' S' → Q (L n S')) → Q (L (n + 1) S)) : ∀ m n S, Inv m S → m < n → Q (L n S) := by
  intro m
  induction m using Nat.strongRecOn with
  | ind m ih =>
    intro n S hI hn
    cases n with
    | zero => omega
    | succ n => exact hstep n m S hI (fun m' S' hlt hI' => ih m' hlt n S' hI' (by omega))
theorem forK {σ ρ : Type} {L : Nat → Int32 → σ → ρ} {Inv : Nat → σ → Prop} {Q : ρ → Prop} {N : Nat} (hN : N < 900000)
    (hstep : ∀ n i S, i < N → Inv i S → (∀ S', Inv (i + 1) S' → Q (L n (nI (i + 1)) S')) → Q (L (n + 1) (nI i) S))
    (hend : ∀ n S, Inv N S → Q (L (n + 1) (nI N) S)) : ∀ i S, i ≤ N → Inv i S → Q (L FU (nI i) S) := by
  intro i S hi hI
  have key := loopK (σ := Nat × σ) (L := fun n p => L n (nI p.1) p.2) (Inv := fun m p => p.1 ≤ N ∧ m = N - p.1 ∧ Inv p.1 p.2) (Q := Q) (by
    rintro n m ⟨i, S⟩ ⟨h1, h2, h3⟩ hk
    rcases Nat.lt_or_ge i N with h | h
    · exact hstep n i S h h3 (fun S' h5 => hk (N - (i + 1)) (i + 1, S') (by omega) ⟨by show i + 1 ≤ N; omega, rfl, h5⟩)
    · have h4 : i = N := by show i = N; simp only at h1; omega
      subst h4
      exact hend n S h3) (N - i) FU (i, S) ⟨hi, rfl, hI⟩ (by unfold FU; omega)
  exact key
/-- the same downwards -/
theorem forD {σ ρ : Type} {L : Nat → Int32 → σ → ρ} {Inv : Nat → σ → Prop} {Q : ρ → Prop}
    (hstep : ∀ n i S, Inv (i + 1) S → (∀ S', Inv i S' → Q (L n (nI i - 1) S')) → Q (L (n + 1) (nI i) S))
    (hend : ∀ n S, Inv 0 S → Q (L (n + 1) (-1) S)) : ∀ i S, i < 900000 → Inv i S → Q (L FU (nI i - 1) S) := by
  intro i S hi hI
  have key := loopK (σ := Nat × σ) (L := fun n p => L n (nI p.1 - 1) p.2) (Inv := fun m p => m = p.1 ∧ Inv p.1 p.2) (Q := Q) (by
    rintro n m ⟨i, S⟩ ⟨h2, h3⟩ hk
    simp only at h2 h3 hk ⊢
    subst h2
    cases m with
    | zero => exact hend n S h3
    | succ k =>
      rw [nI_pred]
      exact hstep n k S h3 (fun S' h5 => hk k (k, S') (Nat.lt_succ_self k) ⟨rfl, h5⟩)) i FU (i, S) ⟨rfl, hI⟩ (by unfold FU; omega)
  exact key
def b2 (b : Bool) : Int32 := match b with
  | true => 1
  | false => 0
theorem b2_0 (b : Bool) : (b2 b = 0) ↔ b = false := by cases b <;> simp [b2]
theorem b2_1 (b : Bool) : (b2 b = 1) ↔ b = true := by cases b <;> simp [b2]
theorem b2t : ¬ b2 true = 0 := by decide
theorem b2f : b2 false = 0 := rfl
theorem bb_b2 (b : Bool) : bb (b2 b) = true := by cases b <;> rfl
def dU (V : Sto) (y : Nat) : Nat := (V 21 y).toNatClampNeg
def dN (V : Sto) (y : Nat) : Nat := (V 22 y).toNatClampNeg
def asksY (V : Sto) (y n : Nat) : Bool := decide (dN V y = n) && (decide (V 24 y = 0) && decide (V 23 y = 1))
def givesY (V : Sto) (y n : Nat) : Bool := decide (dN V y = n) && (!decide (V 24 y = 0) && !decide (V 23 y = 0))
def askd (V : Sto) (A : Nat → Bool) (n : Nat) : Bool := decide (V 0 11 = nI n) || (List.range ((V 3 0).toNatClampNeg)).any (fun y => A (dU V y) && asksY V y n)
def givn (V : Sto) (A : Nat → Bool) (n : Nat) : Bool := (List.range ((V 3 0).toNatClampNeg)).any (fun y => A (dU V y) && givesY V y n)
def need (V : Sto) (A : Nat → Bool) (n : Nat) : Bool := askd V A n && !givn V A n
/-- a symbol that would bring its unit in -/
def brings (V : Sto) (A : Nat → Bool) (y : Nat) : Bool := !decide (V 24 y = 0) && (!decide (V 23 y = 0) && (!decide (V 23 y = 2) && need V A (dN V y)))
def hlp (V : Sto) (A : Nat → Bool) (u : Nat) : Bool := (List.range ((V 3 0).toNatClampNeg)).any (fun y => decide (dU V y = u) && brings V A y)
def cand (V : Sto) (A : Nat → Bool) (a u : Nat) : Bool := decide (V 12 u = nI a) && (!A u && hlp V A u)
def fstU (V : Sto) (A : Nat → Bool) (a : Nat) : Option Nat := (List.range ((V 1 0).toNatClampNeg)).find? (cand V A a)
def addU (A : Nat → Bool) (u : Nat) : Nat → Bool := fun v => A v || decide (v = u)
def brg (V : Sto) (a : Nat) : Nat → (Nat → Bool) → (Nat → Bool)
  | 0, A => A
  | n + 1, A => match fstU V A a with
    | none => A
    | some u => brg V a n (addU A u)
def came (V : Sto) (A : Nat → Bool) (a : Nat) : Bool := (fstU V A a).isSome
def goN (V : Sto) (A : Nat → Bool) : Nat → (Nat → Bool) × Bool
  | 0 => (A, false)
  | i + 1 => (brg V i 24 (goN V A i).1, (goN V A i).2 || came V (goN V A i).1 i)
def go4 (V : Sto) (A : Nat → Bool) : (Nat → Bool) × Bool := goN V A 4
def rnds (V : Sto) : Nat → (Nat → Bool) → (Nat → Bool)
  | 0, A => A
  | n + 1, A => match (go4 V A).2 with
    | true => rnds V n (go4 V A).1
    | false => (go4 V A).1
def A0 (V : Sto) : Nat → Bool := fun u => decide (u < (V 1 0).toNatClampNeg) && decide (V 12 u = -1)
/-- all that are in -/
def inS (V : Sto) : Nat → Bool := rnds V (if V 0 13 = 0 then 1 else 25) (A0 V)
theorem asksY_iff {V : Sto} {y n : Nat} : asksY V y n = true ↔ dN V y = n ∧ V 24 y = 0 ∧ V 23 y = 1 := by simp [asksY]
theorem givesY_iff {V : Sto} {y n : Nat} : givesY V y n = true ↔ dN V y = n ∧ ¬ V 24 y = 0 ∧ ¬ V 23 y = 0 := by simp [givesY]
theorem any_or {l : List Nat} {p q : Nat → Bool} : l.any (fun y => p y || q y) = (l.any p || l.any q) := by
  induction l with
  | nil => rfl
  | cons a l ih =>
    simp only [List.any_cons, ih]
    cases p a <;> cases q a <;> cases l.any p <;> cases l.any q <;> rfl
theorem any_congr' {l : List Nat} {p q : Nat → Bool} (h : ∀ y ∈ l, p y = q y) : l.any p = l.any q := by
  induction l with
  | nil => rfl
  | cons a l ih =>
    simp only [List.any_cons]
    rw [h a List.mem_cons_self, ih (fun y hy => h y (List.mem_cons_of_mem _ hy))]
theorem askd_add (V : Sto) (A : Nat → Bool) (u n : Nat) : askd V (addU A u) n = (askd V A n || (List.range ((V 3 0).toNatClampNeg)).any (fun y => decide (dU V y = u) && asksY V y n)) := by
  unfold askd
  rw [Bool.or_assoc, ← any_or]
  congr 1
  refine any_congr' (fun y _ => ?_)
  unfold addU
  cases A (dU V y) <;> cases decide (dU V y = u) <;> cases asksY V y n <;> rfl
theorem givn_add (V : Sto) (A : Nat → Bool) (u n : Nat) : givn V (addU A u) n = (givn V A n || (List.range ((V 3 0).toNatClampNeg)).any (fun y => decide (dU V y = u) && givesY V y n)) := by
  unfold givn
  rw [← any_or]
  refine any_congr' (fun y _ => ?_)
  unfold addU
  cases A (dU V y) <;> cases decide (dU V y = u) <;> cases givesY V y n <;> rfl
/-- the class's state between two steps -/
def CI (V : Sto) (A : Nat → Bool) (S : Sto) : Prop :=
  (∀ u, u < (V 1 0).toNatClampNeg → S 13 u = b2 (A u)) ∧
  (∀ n, n < 200 → S 35 n = b2 (askd V A n)) ∧
  (∀ n, n < 200 → S 36 n = b2 (givn V A n)) ∧
  (S 3 = V 3 ∧ S 21 = V 21 ∧ S 22 = V 22 ∧ S 23 = V 23 ∧ S 24 = V 24 ∧ S 12 = V 12 ∧ S 1 = V 1)
theorem CI.u {V : Sto} {A : Nat → Bool} {S : Sto} (h : CI V A S) : ∀ u, u < (V 1 0).toNatClampNeg → S 13 u = b2 (A u) := h.1
theorem CI.a {V : Sto} {A : Nat → Bool} {S : Sto} (h : CI V A S) : ∀ n, n < 200 → S 35 n = b2 (askd V A n) := h.2.1
theorem CI.g {V : Sto} {A : Nat → Bool} {S : Sto} (h : CI V A S) : ∀ n, n < 200 → S 36 n = b2 (givn V A n) := h.2.2.1
theorem CI.c {V : Sto} {A : Nat → Bool} {S : Sto} (h : CI V A S) : S 3 = V 3 ∧ S 21 = V 21 ∧ S 22 = V 22 ∧ S 23 = V 23 ∧ S 24 = V 24 ∧ S 12 = V 12 ∧ S 1 = V 1 := h.2.2.2
theorem asks_eq {S : Sto} {y : Nat} (hy : y < 400) : f_Sy_asksForName S (nI y) = some (b2 (decide (S 23 y = 1) && decide (S 24 y = 0)), S) := by
  unfold f_Sy_asksForName
  rw [ib_nI hy (by decide), ck_mk, cI (by omega)]
  by_cases c1 : S 23 y = 1
  · rw [if_pos c1, ck_mk]
    by_cases c2 : S 24 y = 0
    · rw [if_pos c2]; simp [c1, c2, b2]
    · rw [if_neg c2]; simp [c1, c2, b2]
  · rw [if_neg c1]; simp [c1, b2]
theorem gives_eq {S : Sto} {y : Nat} (hy : y < 400) : f_Sy_givesName S (nI y) = some (b2 (!decide (S 23 y = 0) && !decide (S 24 y = 0)), S) := by
  unfold f_Sy_givesName
  rw [ib_nI hy (by decide), ck_mk, cI (by omega)]
  by_cases c1 : S 23 y = 0
  · rw [if_pos c1]; simp [c1, b2]
  · rw [if_neg c1, ck_mk]
    by_cases c2 : S 24 y = 0
    · rw [if_pos c2]; simp [c1, c2, b2]
    · rw [if_neg c2]; simp [c1, c2, b2]
/-- one symbol is noted -/
theorem note_eq {S : Sto} {y : Nat} (hy : y < 400) (hn : ib (S 22 y) 200 = true) : ∃ W, f_Ar_note S (nI y) = some (0, W) ∧ (∀ q, q ≠ 35 → q ≠ 36 → W q = S q) ∧ (∀ n, W 35 n = if n = (S 22 y).toNatClampNeg ∧ (S 23 y = 1 ∧ S 24 y = 0) then 1 else S 35 n) ∧ ∀ n, W 36 n = if n = (S 22 y).toNatClampNeg ∧ (¬ S 23 y = 0 ∧ ¬ S 24 y = 0) then 1 else S 36 n := by
  have second : ∀ T : Sto, T 22 = S 22 → T 23 = S 23 → T 24 = S 24 → ∃ W, (cl (f_Sy_givesName T (nI y)) fun r2 V4 => if r2 = 0 then some ((0 : Int32), V4) else ck (ib (nI y) 400) <| ck (ib (V4 22 (nI y).toNatClampNeg) 200) <| nm (sw V4 36 (V4 22 (nI y).toNatClampNeg).toNatClampNeg 1) fun V5 => some (0, V5)) = some (0, W) ∧ (∀ q, q ≠ 36 → W q = T q) ∧ ∀ n, W 36 n = if n = (S 22 y).toNatClampNeg ∧ (¬ S 23 y = 0 ∧ ¬ S 24 y = 0) then 1 else T 36 n := by
    intro T h1 h2 h3
    rw [gives_eq hy, cl_mk, h2, h3]
    by_cases c : (!decide (S 23 y = 0) && !decide (S 24 y = 0)) = true
    · rw [c, if_neg b2t, ib_nI hy (by decide), ck_mk, cI (by omega), h1, hn, ck_mk, nm_mk]
      have c' : ¬ S 23 y = 0 ∧ ¬ S 24 y = 0 := by simpa using c
      refine ⟨_, rfl, fun q hq => sw_ne hq, fun n => ?_⟩
      rw [sw_at]
      by_cases e : n = (S 22 y).toNatClampNeg
      · rw [if_pos e, if_pos ⟨e, c'⟩]
      · rw [if_neg e, if_neg (fun z => e z.1)]
    · rw [Bool.eq_false_iff.mpr c, if_pos b2f]
      refine ⟨T, rfl, fun q _ => rfl, fun n => ?_⟩
      rw [if_neg]
      rintro ⟨-, z⟩
      exact c (by simp [z.1, z.2])
  unfold f_Ar_note
  simp only [asks_eq hy, cl_mk, jn_mk]
  by_cases c : (decide (S 23 y = 1) && decide (S 24 y = 0)) = true
  · rw [c, if_neg b2t, ib_nI hy (by decide), ck_mk, cI (by omega), hn, ck_mk, nm_mk]
    have c' : S 23 y = 1 ∧ S 24 y = 0 := by simpa using c
    obtain ⟨W, w1, w2, w3⟩ := second (sw S 35 (S 22 y).toNatClampNeg 1) (sw_ne (by decide)) (sw_ne (by decide)) (sw_ne (by decide))
    refine ⟨W, ?_, fun q h1 h2 => by rw [w2 q h2, sw_ne h1], fun n => ?_, fun n => ?_⟩
    · rw [ib_nI hy (by decide), cI (by omega)] at w1
      exact w1
    · rw [w2 35 (by decide), sw_at]
      by_cases e : n = (S 22 y).toNatClampNeg
      · rw [if_pos e, if_pos ⟨e, c'⟩]
      · rw [if_neg e, if_neg (fun z => e z.1)]
    · rw [w3, sw_ne (by decide)]
  · rw [Bool.eq_false_iff.mpr c, if_pos b2f]
    obtain ⟨W, w1, w2, w3⟩ := second S rfl rfl rfl
    refine ⟨W, w1, fun q h1 h2 => w2 q h2, fun n => ?_, w3⟩
    rw [w2 35 (by decide), if_neg]
    rintro ⟨-, z⟩
    exact c (by simp [z.1, z.2])
theorem admit_eq {V S : Sto} {A : Nat → Bool} (h : WF V) (hS : CI V A S) {u : Nat} (hu : u < (V 1 0).toNatClampNeg) : ∃ W, f_Ar_admit S (nI u) = some (0, W) ∧ (∀ q, q ≠ 13 → q ≠ 35 → q ≠ 36 → W q = S q) ∧ CI V (addU A u) W := by
  have hu1 := h.u1
  have hy1 := h.y1
  obtain ⟨c3, c21, c22, c23, c24, c12, c1⟩ := hS.c
  unfold f_Ar_admit
  rw [ib_nI (by omega) (by decide), ck_mk, nm_mk, cI (by omega)]
  have key := forQ (L := lp_Ar_admit_12 (nI u) (fun V3 => some (0, V3))) (N := (V 3 0).toNatClampNeg) (Inv := fun i W => (∀ q, q ≠ 35 → q ≠ 36 → W q = sw S 13 u 1 q) ∧ (∀ n, n < 200 → W 35 n = b2 (askd V A n || (List.range i).any (fun y => decide (dU V y = u) && asksY V y n))) ∧ ∀ n, n < 200 → W 36 n = b2 (givn V A n || (List.range i).any (fun y => decide (dU V y = u) && givesY V y n))) (Q := fun r => ∃ W, r = some (0, W) ∧ (∀ q, q ≠ 13 → q ≠ 35 → q ≠ 36 → W q = S q) ∧ CI V (addU A u) W) (by omega) (by
    rintro m i W hi ⟨w1, w2, w3⟩
    have e3 : W 3 = V 3 := by rw [w1 3 (by decide) (by decide), sw_ne (by decide), c3]
    have e21 : W 21 = V 21 := by rw [w1 21 (by decide) (by decide), sw_ne (by decide), c21]
    have e22 : W 22 = V 22 := by rw [w1 22 (by decide) (by decide), sw_ne (by decide), c22]
    have e23 : W 23 = V 23 := by rw [w1 23 (by decide) (by decide), sw_ne (by decide), c23]
    have e24 : W 24 = V 24 := by rw [w1 24 (by decide) (by decide), sw_ne (by decide), c24]
    have hsucc : ∀ p : Nat → Bool, (List.range (i + 1)).any p = ((List.range i).any p || p i) := fun p => by
      rw [List.range_succ, List.any_append]
      simp
    have hui : (V 21 i = nI u) ↔ dU V i = u := by
      rw [ib_eq (h.yu i hi)]
      exact nI_eq (ct_lt _) (by omega)
    rw [lp_Ar_admit_12, e3, if_neg (fun z => by have := (le_cnt h.y0 (by omega)).mp z; omega), ib_nI (by omega) (by decide), ck_mk, cI (by omega), e21, nI1]
    by_cases c : V 21 i = nI u
    · rw [if_pos c]
      obtain ⟨X, x1, x2, x3, x4⟩ := note_eq (S := W) (y := i) (by omega) (by rw [e22]; exact h.yn i hi)
      rw [x1, cl_mk]
      refine Or.inr ⟨X, rfl, fun q h1 h2 => by rw [x2 q h1 h2]; exact w1 q h1 h2, fun n hn => ?_, fun n hn => ?_⟩
      · rw [x3, e22, e23, e24, hsucc, w2 n hn]
        by_cases d : n = (V 22 i).toNatClampNeg ∧ (V 23 i = 1 ∧ V 24 i = 0)
        · rw [if_pos d]
          have : (decide (dU V i = u) && asksY V i n) = true := by
            simp [asksY, hui.mp c, dN, d.1, d.2.1, d.2.2]
          rw [this, Bool.or_true, Bool.or_true]
          rfl
        · rw [if_neg d]
          have : (decide (dU V i = u) && asksY V i n) = false := by
            cases hh : (decide (dU V i = u) && asksY V i n) with
            | false => rfl
            | true =>
              exfalso
              rw [Bool.and_eq_true, asksY_iff] at hh
              exact d ⟨hh.2.1.symm, hh.2.2.2, hh.2.2.1⟩
          rw [this, Bool.or_false]
      · rw [x4, e22, e23, e24, hsucc, w3 n hn]
        by_cases d : n = (V 22 i).toNatClampNeg ∧ (¬ V 23 i = 0 ∧ ¬ V 24 i = 0)
        · rw [if_pos d]
          have : (decide (dU V i = u) && givesY V i n) = true := by
            simp [givesY, hui.mp c, dN, d.1, d.2.1, d.2.2]
          rw [this, Bool.or_true, Bool.or_true]
          rfl
        · rw [if_neg d]
          have : (decide (dU V i = u) && givesY V i n) = false := by
            cases hh : (decide (dU V i = u) && givesY V i n) with
            | false => rfl
            | true =>
              exfalso
              rw [Bool.and_eq_true, givesY_iff] at hh
              exact d ⟨hh.2.1.symm, hh.2.2.2, hh.2.2.1⟩
          rw [this, Bool.or_false]
    · rw [if_neg c]
      have hf : decide (dU V i = u) = false := decide_eq_false (fun z => c (hui.mpr z))
      refine Or.inr ⟨W, rfl, w1, fun n hn => ?_, fun n hn => ?_⟩
      · rw [hsucc, hf, Bool.false_and, Bool.or_false]; exact w2 n hn
      · rw [hsucc, hf, Bool.false_and, Bool.or_false]; exact w3 n hn) (by
    rintro m W ⟨w1, w2, w3⟩
    have e3 : W 3 = V 3 := by rw [w1 3 (by decide) (by decide), sw_ne (by decide), c3]
    rw [lp_Ar_admit_12, e3, if_pos ((le_cnt h.y0 (by omega)).mpr (Nat.le_refl _))]
    refine ⟨W, rfl, fun q h1 h2 h3 => by rw [w1 q h2 h3, sw_ne h1], fun v hv => ?_, fun n hn => ?_, fun n hn => ?_, ?_⟩
    · rw [w1 13 (by decide) (by decide), sw_at]
      unfold addU
      by_cases e : v = u
      · rw [if_pos e, decide_eq_true e, Bool.or_true]; rfl
      · rw [if_neg e, decide_eq_false e, Bool.or_false]; exact hS.u v hv
    · rw [askd_add]; exact w2 n hn
    · rw [givn_add]; exact w3 n hn
    · refine ⟨e3, ?_, ?_, ?_, ?_, ?_, ?_⟩
      · rw [w1 21 (by decide) (by decide), sw_ne (by decide), c21]
      · rw [w1 22 (by decide) (by decide), sw_ne (by decide), c22]
      · rw [w1 23 (by decide) (by decide), sw_ne (by decide), c23]
      · rw [w1 24 (by decide) (by decide), sw_ne (by decide), c24]
      · rw [w1 12 (by decide) (by decide), sw_ne (by decide), c12]
      · rw [w1 1 (by decide) (by decide), sw_ne (by decide), c1]) 0 (sw S 13 u 1) (Nat.zero_le _) ⟨fun q _ _ => rfl, fun n hn => by
      rw [sw_ne (by decide), hS.a n hn]
      simp, fun n hn => by
      rw [sw_ne (by decide), hS.g n hn]
      simp⟩
  exact key
theorem isNeeded_eq {V S : Sto} {A : Nat → Bool} (h : WF V) (hS : CI V A S) {y : Nat} (hy : y < (V 3 0).toNatClampNeg) : f_Ar_isNeeded S (nI y) = some (b2 (brings V A y), S) := by
  have hy1 := h.y1
  obtain ⟨c3, c21, c22, c23, c24, c12, c1⟩ := hS.c
  have hn := h.yn y hy
  have hnl : dN V y < 200 := ib_lt hn
  unfold f_Ar_isNeeded
  rw [ib_nI (by omega) (by decide), ck_mk, gives_eq (by omega), cl_mk, c23, c24]
  unfold brings need
  by_cases g0 : V 23 y = 0
  · simp [g0, b2]
  · by_cases g1 : V 24 y = 0
    · simp [g0, g1, b2]
    · have hg : (!decide (V 23 y = 0) && !decide (V 24 y = 0)) = true := by simp [g0, g1]
      rw [hg, if_neg b2t, ck_mk, cI (by omega), c22]
      by_cases g2 : V 23 y = 2
      · rw [if_pos g2]
        simp [g2, b2]
      · rw [if_neg g2, hn, ck_mk]
        have ea : S 35 (V 22 y).toNatClampNeg = b2 (askd V A (dN V y)) := hS.a _ hnl
        have eg : S 36 (V 22 y).toNatClampNeg = b2 (givn V A (dN V y)) := hS.g _ hnl
        rw [ea, eg]
        cases askd V A (dN V y) with
        | false => simp [b2]
        | true =>
          cases givn V A (dN V y) with
          | false => simp [b2, g0, g1, g2, ck_mk]
          | true => simp [b2, g0, g1, g2, ck_mk]
/-- a symbol whose unit waits, and is needed -/
def waits (V : Sto) (A : Nat → Bool) (a y : Nat) : Bool := (decide (V 12 (dU V y) = nI a) && !A (dU V y)) && brings V A y
theorem cand_w {V : Sto} {A : Nat → Bool} {a u : Nat} : cand V A a u = true ↔ ∃ y, y < (V 3 0).toNatClampNeg ∧ dU V y = u ∧ waits V A a y = true := by
  unfold cand hlp waits
  simp only [Bool.and_eq_true, decide_eq_true_eq, Bool.not_eq_true']
  constructor
  · rintro ⟨h1, h2, h3⟩
    obtain ⟨y, hy, h4⟩ := any_range.mp h3
    simp only [Bool.and_eq_true, decide_eq_true_eq] at h4
    exact ⟨y, hy, h4.1, ⟨by rw [h4.1]; exact h1, by rw [h4.1]; exact h2⟩, h4.2⟩
  · rintro ⟨y, hy, rfl, ⟨h1, h2⟩, h3⟩
    exact ⟨h1, h2, any_range.mpr ⟨y, hy, by simp [h3]⟩⟩
theorem fstU_some {V : Sto} {A : Nat → Bool} {a u : Nat} (hu : u < (V 1 0).toNatClampNeg) (hc : cand V A a u = true) (hm : ∀ v, v < u → cand V A a v = false) : fstU V A a = some u := by
  unfold fstU
  rw [List.find?_eq_some_iff_getElem]
  refine ⟨hc, u, by rw [List.length_range]; exact hu, by simp, fun j hj => ?_⟩
  have := hm j hj
  simp [this]
theorem fstU_none {V : Sto} {A : Nat → Bool} {a : Nat} (hm : ∀ v, v < (V 1 0).toNatClampNeg → cand V A a v = false) : fstU V A a = none := by
  unfold fstU
  rw [List.find?_eq_none]
  intro x hx
  have := hm x (List.mem_range.mp hx)
  simp [this]
theorem firstNeeded_eq {V S : Sto} {A : Nat → Bool} (h : WF V) (hS : CI V A S) {a : Nat} (ha : a < 4) : f_Ar_firstNeeded S (nI a) = some (optI (fstU V A a), S) := by
  have hy1 := h.y1
  have hu1 := h.u1
  obtain ⟨c3, c21, c22, c23, c24, c12, c1⟩ := hS.c
  unfold f_Ar_firstNeeded
  have key := forK (σ := Int32 × Sto) (L := fun n i T => lp_Ar_firstNeeded_4 (nI a) (fun y1 V2 => some (y1, V2)) n T.1 i T.2) (N := (V 3 0).toNatClampNeg) (Inv := fun i T => T.2 = S ∧ ((T.1 = -1 ∧ ∀ y, y < i → waits V A a y = false) ∨ ∃ u, T.1 = nI u ∧ u < (V 1 0).toNatClampNeg ∧ (∃ y, y < i ∧ dU V y = u ∧ waits V A a y = true) ∧ ∀ y, y < i → waits V A a y = true → u ≤ dU V y)) (Q := fun r => r = some (optI (fstU V A a), S)) (by omega) (by
    rintro m i ⟨x, T⟩ hi ⟨hT, hx⟩ ih
    simp only at hT hx
    subst hT
    have hui := h.yu i hi
    have hul : dU V i < (V 1 0).toNatClampNeg := ib_lt hui
    have hue : V 21 i = nI (dU V i) := ib_eq hui
    have h12 : T 12 (dU V i) = V 12 (dU V i) := by rw [c12]
    have h13 := hS.u (dU V i) hul
    show lp_Ar_firstNeeded_4 (nI a) (fun y1 V2 => some (y1, V2)) (m + 1) x (nI i) T = _
    rw [lp_Ar_firstNeeded_4, c3, if_neg (fun z => by have := (le_cnt h.y0 (by omega)).mp z; omega), ib_nI (by omega) (by decide), ck_mk, cI (by omega), c21, ib_mono hui hu1, ck_mk, nI1]
    simp only [jn_mk, i10, if_true, if_false]
    have hct : (V 21 i).toNatClampNeg = dU V i := rfl
    rw [hct, h12, h13]
    have stay : waits V A a i = false → T = T ∧ ((x = -1 ∧ ∀ y, y < i + 1 → waits V A a y = false) ∨ ∃ u, x = nI u ∧ u < (V 1 0).toNatClampNeg ∧ (∃ y, y < i + 1 ∧ dU V y = u ∧ waits V A a y = true) ∧ ∀ y, y < i + 1 → waits V A a y = true → u ≤ dU V y) := by
      intro hw
      refine ⟨rfl, ?_⟩
      rcases hx with ⟨x1, x2⟩ | ⟨u, x1, x2, ⟨y, y1, y2, y3⟩, x4⟩
      · refine Or.inl ⟨x1, fun y hy => ?_⟩
        by_cases e : y = i
        · rw [e]; exact hw
        · exact x2 y (by omega)
      · refine Or.inr ⟨u, x1, x2, ⟨y, by omega, y2, y3⟩, fun z hz hzw => ?_⟩
        by_cases e : z = i
        · rw [e, hw] at hzw; cases hzw
        · exact x4 z (by omega) hzw
    by_cases g1 : V 12 (dU V i) = nI a
    · rw [if_pos g1, ck_mk]
      cases hA : A (dU V i) with
      | true =>
        rw [if_neg b2t]
        refine ih (x, T) (stay ?_)
        unfold waits
        rw [hA]
        simp
      | false =>
        rw [if_pos b2f, isNeeded_eq h hS hi, cl_mk]
        cases hb : brings V A i with
        | false =>
          rw [if_pos b2f]
          refine ih (x, T) (stay ?_)
          unfold waits
          rw [hb, Bool.and_false]
        | true =>
          have hw : waits V A a i = true := by
            unfold waits
            rw [hA, hb, decide_eq_true g1]
            rfl
          rw [if_neg b2t]
          rcases hx with ⟨x1, x2⟩ | ⟨u, x1, x2, ⟨y, y1, y2, y3⟩, x4⟩
          · rw [if_pos x1]
            refine ih (V 21 i, T) ⟨rfl, Or.inr ⟨dU V i, hue, hul, ⟨i, by omega, rfl, hw⟩, fun z hz hzw => ?_⟩⟩
            by_cases e : z = i
            · rw [e]; exact Nat.le_refl _
            · rw [x2 z (by omega)] at hzw; cases hzw
          · have hxn : ¬ x = -1 := by rw [x1]; exact m1_ne u (by omega)
            rw [if_neg hxn]
            by_cases c : x ≤ V 21 i
            · rw [if_pos c]
              rw [x1, hue, nI_le_iff (by omega) (by omega)] at c
              refine ih (x, T) ⟨rfl, Or.inr ⟨u, x1, x2, ⟨y, by omega, y2, y3⟩, fun z hz hzw => ?_⟩⟩
              by_cases e : z = i
              · rw [e]; exact c
              · exact x4 z (by omega) hzw
            · rw [if_neg c]
              rw [x1, hue, nI_le_iff (by omega) (by omega)] at c
              refine ih (V 21 i, T) ⟨rfl, Or.inr ⟨dU V i, hue, hul, ⟨i, by omega, rfl, hw⟩, fun z hz hzw => ?_⟩⟩
              by_cases e : z = i
              · rw [e]; exact Nat.le_refl _
              · have := x4 z (by omega) hzw
                omega
    · rw [if_neg g1]
      refine ih (x, T) (stay ?_)
      unfold waits
      rw [decide_eq_false g1]
      rfl) (by
    rintro m ⟨x, T⟩ ⟨hT, hx⟩
    simp only at hT hx
    subst hT
    show lp_Ar_firstNeeded_4 (nI a) (fun y1 V2 => some (y1, V2)) (m + 1) x (nI ((V 3 0).toNatClampNeg)) T = _
    rw [lp_Ar_firstNeeded_4, c3, if_pos ((le_cnt h.y0 (by omega)).mpr (Nat.le_refl _))]
    rcases hx with ⟨x1, x2⟩ | ⟨u, x1, x2, x3, x4⟩
    · rw [fstU_none (fun v _ => by
        cases hc : cand V A a v with
        | false => rfl
        | true =>
          obtain ⟨y, y1, y2, y3⟩ := cand_w.mp hc
          rw [x2 y y1] at y3
          cases y3), x1]
      rfl
    · rw [fstU_some x2 (cand_w.mpr x3) (fun v hv => by
        cases hc : cand V A a v with
        | false => rfl
        | true =>
          obtain ⟨y, y1, y2, y3⟩ := cand_w.mp hc
          have := x4 y y1 y3
          omega), x1]
      rfl) 0 (-1, S) (Nat.zero_le _) ⟨rfl, Or.inl ⟨rfl, fun y hy => absurd hy (Nat.not_lt_zero _)⟩⟩
  exact key
