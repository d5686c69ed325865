/-! The calls that tell: their values, and that they keep the data well formed and alike. -/
def tla (V : Sto) : Sto := sw (sw (sw (sw V 0 14 0) 0 15 0) 0 16 (-1)) 0 17 (-1)
def tld (M : Sto) : Sto := sw (sw (sw (sw M 0 29 0) 0 30 0) 0 31 (-1)) 0 32 (-1)
theorem tla_eq (V : Sto) : f_Ly_takeLinkAway V = some (0, tla V) := rfl
theorem tld_eq (M : Sto) : f_Mo_told M = some (0, tld M) := rfl
theorem tla_o (V : Sto) {q : Nat} (h : q ≠ 0) : tla V q = V q := by
  unfold tla
  rw [sw_ne h, sw_ne h, sw_ne h, sw_ne h]
theorem tla_0 (V : Sto) (j : Nat) : tla V 0 j = if j = 17 then -1 else if j = 16 then -1 else if j = 15 then 0 else if j = 14 then 0 else V 0 j := by
  unfold tla
  simp only [sw_at]
theorem tld_o (M : Sto) {q : Nat} (h : q ≠ 0) : tld M q = M q := by
  unfold tld
  rw [sw_ne h, sw_ne h, sw_ne h, sw_ne h]
theorem tld_0 (M : Sto) (j : Nat) : tld M 0 j = if j = 32 then -1 else if j = 31 then -1 else if j = 30 then 0 else if j = 29 then 0 else M 0 j := by
  unfold tld
  simp only [sw_at]
/-- the cells that hold what was told -/
def dcell (q : Nat) : Bool := decide (q = 1 ∨ q = 2 ∨ q = 3 ∨ q = 4 ∨ q = 12 ∨ q = 15 ∨ q = 16 ∨ q = 17 ∨ q = 18 ∨ q = 19 ∨ q = 20 ∨ q = 21 ∨ q = 22 ∨ q = 23 ∨ q = 24 ∨ q = 25 ∨ q = 26 ∨ q = 27 ∨ q = 28 ∨ q = 29 ∨ q = 30 ∨ q = 31 ∨ q = 1000)
theorem WF.cong {V W : Sto} (h : WF V) (hd : ∀ q, dcell q = true → W q = V q) (h11 : W 0 11 = -1 ∨ ib (W 0 11) 200 = true) (h12 : bb (W 0 12) = true) (h13 : bb (W 0 13) = true) : WF W := by
  have e1 := hd 1 rfl
  have e2 := hd 2 rfl
  have e3 := hd 3 rfl
  have e4 := hd 4 rfl
  have e12 := hd 12 rfl
  have e15 := hd 15 rfl
  have e16 := hd 16 rfl
  have e17 := hd 17 rfl
  have e18 := hd 18 rfl
  have e19 := hd 19 rfl
  have e20 := hd 20 rfl
  have e21 := hd 21 rfl
  have e22 := hd 22 rfl
  have e23 := hd 23 rfl
  have e24 := hd 24 rfl
  have e25 := hd 25 rfl
  have e26 := hd 26 rfl
  have e27 := hd 27 rfl
  have e28 := hd 28 rfl
  have e29 := hd 29 rfl
  have e30 := hd 30 rfl
  have e31 := hd 31 rfl
  have e1000 := hd 1000 rfl
  unfold WF at h ⊢
  rw [e1, e2, e3, e4, e12, e15, e16, e17, e18, e19, e20, e21, e22, e23, e24, e25, e26, e27, e28, e29, e30, e1000]
  obtain ⟨a1, a2, a3, a4, a5, a6, a7, a8, a9, a10, a11, a12, a13, a14, a15, a16, a17, a18, a19, a20, a21, a22, a23, a24, a25, a26, a27, a28, a29, a30, a31, -, -, -⟩ := h
  exact ⟨a1, a2, a3, a4, a5, a6, a7, a8, a9, a10, a11, a12, a13, a14, a15, a16, a17, a18, a19, a20, a21, a22, a23, a24, a25, a26, a27, a28, a29, a30, a31, h11, h12, h13⟩
theorem WF.tla {V : Sto} (h : WF V) : WF (tla V) := by
  refine h.cong (fun q hq => tla_o V (fun e => by subst e; cases hq)) ?_ ?_ ?_
  · rw [tla_0]; exact h.en
  · rw [tla_0]; exact h.fo
  · rw [tla_0]; exact h.gr
def RelF (V M : Sto) : Prop :=
  (M 0 29 = V 0 14) ∧
  (M 0 30 = V 0 15) ∧
  (M 0 31 = V 0 16) ∧
  (M 0 32 = V 0 17) ∧
  (bb (V 0 14) = true)
theorem RelF.li {V M : Sto} (h : RelF V M) : M 0 29 = V 0 14 := h.1
theorem RelF.fk {V M : Sto} (h : RelF V M) : M 0 30 = V 0 15 := h.2.1
theorem RelF.fn {V M : Sto} (h : RelF V M) : M 0 31 = V 0 16 := h.2.2.1
theorem RelF.fr {V M : Sto} (h : RelF V M) : M 0 32 = V 0 17 := h.2.2.2.1
theorem RelF.lb {V M : Sto} (h : RelF V M) : bb (V 0 14) = true := h.2.2.2.2
/-- told: nothing is linked -/
def T0 (V M : Sto) : Prop :=
  (WF V) ∧
  (RelD V M) ∧
  (RelF V M) ∧
  (V 0 14 = 0)
theorem T0.wf {V M : Sto} (h : T0 V M) : WF V := h.1
theorem T0.rd {V M : Sto} (h : T0 V M) : RelD V M := h.2.1
theorem T0.rf {V M : Sto} (h : T0 V M) : RelF V M := h.2.2.1
theorem T0.nl {V M : Sto} (h : T0 V M) : V 0 14 = 0 := h.2.2.2
theorem RelD.thr {V M : Sto} (h : RelD V M) (x : Int32) : RelD V (sw M 0 0 x) := by
  have e : ∀ q, q ≠ 0 → sw M 0 0 x q = M q := fun q hq => sw_ne hq
  have e0 : ∀ j, j ≠ 0 → sw M 0 0 x 0 j = M 0 j := fun j hj => by rw [sw_at, if_neg hj]
  unfold RelD at h ⊢
  rw [e0 1 (by decide), e0 3 (by decide), e0 10 (by decide), e0 11 (by decide), e0 13 (by decide), e0 20 (by decide), e0 26 (by decide), e0 27 (by decide), e0 28 (by decide), e 1 (by decide), e 2 (by decide), e 3 (by decide), e 4 (by decide), e 5 (by decide), e 6 (by decide), e 7 (by decide), e 8 (by decide), e 9 (by decide), e 10 (by decide), e 11 (by decide), e 12 (by decide), e 13 (by decide), e 14 (by decide), e 15 (by decide), e 16 (by decide), e 17 (by decide), e 18 (by decide), e 19 (by decide)]
  exact h
theorem RelF.thr {V M : Sto} (h : RelF V M) (x : Int32) : RelF V (sw M 0 0 x) := by
  have e0 : ∀ j, j ≠ 0 → sw M 0 0 x 0 j = M 0 j := fun j hj => by rw [sw_at, if_neg hj]
  unfold RelF at h ⊢
  rw [e0 29 (by decide), e0 30 (by decide), e0 31 (by decide), e0 32 (by decide)]
  exact h
theorem RelD.tld {V M : Sto} (h : RelD V M) : RelD (tla V) (tld M) := by
  unfold RelD at h ⊢
  simp only [tla_o V (show (1 : Nat) ≠ 0 by decide), tla_o V (show (2 : Nat) ≠ 0 by decide), tla_o V (show (3 : Nat) ≠ 0 by decide), tla_o V (show (4 : Nat) ≠ 0 by decide), tla_o V (show (12 : Nat) ≠ 0 by decide), tla_o V (show (14 : Nat) ≠ 0 by decide), tla_o V (show (15 : Nat) ≠ 0 by decide), tla_o V (show (16 : Nat) ≠ 0 by decide), tla_o V (show (17 : Nat) ≠ 0 by decide), tla_o V (show (18 : Nat) ≠ 0 by decide), tla_o V (show (19 : Nat) ≠ 0 by decide), tla_o V (show (20 : Nat) ≠ 0 by decide), tla_o V (show (21 : Nat) ≠ 0 by decide), tla_o V (show (22 : Nat) ≠ 0 by decide), tla_o V (show (23 : Nat) ≠ 0 by decide), tla_o V (show (24 : Nat) ≠ 0 by decide), tla_o V (show (25 : Nat) ≠ 0 by decide), tla_o V (show (26 : Nat) ≠ 0 by decide), tla_o V (show (27 : Nat) ≠ 0 by decide), tla_o V (show (28 : Nat) ≠ 0 by decide), tla_o V (show (29 : Nat) ≠ 0 by decide), tla_o V (show (30 : Nat) ≠ 0 by decide), tla_o V (show (31 : Nat) ≠ 0 by decide), tla_0, tld_0,
    tld_o M (show (1 : Nat) ≠ 0 by decide), tld_o M (show (2 : Nat) ≠ 0 by decide), tld_o M (show (3 : Nat) ≠ 0 by decide), tld_o M (show (4 : Nat) ≠ 0 by decide), tld_o M (show (5 : Nat) ≠ 0 by decide), tld_o M (show (6 : Nat) ≠ 0 by decide), tld_o M (show (7 : Nat) ≠ 0 by decide), tld_o M (show (8 : Nat) ≠ 0 by decide), tld_o M (show (9 : Nat) ≠ 0 by decide), tld_o M (show (10 : Nat) ≠ 0 by decide), tld_o M (show (11 : Nat) ≠ 0 by decide), tld_o M (show (12 : Nat) ≠ 0 by decide), tld_o M (show (13 : Nat) ≠ 0 by decide), tld_o M (show (14 : Nat) ≠ 0 by decide), tld_o M (show (15 : Nat) ≠ 0 by decide), tld_o M (show (16 : Nat) ≠ 0 by decide), tld_o M (show (17 : Nat) ≠ 0 by decide), tld_o M (show (18 : Nat) ≠ 0 by decide), tld_o M (show (19 : Nat) ≠ 0 by decide)]
  exact h
theorem tl_F (V M : Sto) : RelF (tla V) (tld M) := by
  refine ⟨?_, ?_, ?_, ?_, ?_⟩ <;> simp [tla_0, tld_0, bb]
theorem T0.tl {V M : Sto} (h : WF V) (hr : RelD V M) : T0 (tla V) (tld M) := ⟨h.tla, hr.tld, tl_F V M, by rw [tla_0]; rfl⟩
theorem within_eq (M : Sto) (x a b : Int32) : f_Mo_within M x a b = some (if a ≤ x ∧ x ≤ b then 1 else 0, M) := by
  unfold f_Mo_within
  by_cases h1 : x < a
  · rw [if_pos h1, if_neg (fun h => absurd h1 (Int32.not_lt.mpr h.1))]
  · rw [if_neg h1]
    by_cases h2 : b < x
    · rw [if_pos h2, if_neg (fun h => absurd h2 (Int32.not_lt.mpr h.2))]
    · rw [if_neg h2, if_pos ⟨Int32.not_lt.mp h1, Int32.not_lt.mp h2⟩]
theorem refuse_10 (M : Sto) (x : Int32) : f_Mo_refuse M 1 x = some (1, sw M 0 0 1) := by
  simp [f_Mo_refuse, nm, sw_at]
theorem refuse_01 (M : Sto) : f_Mo_refuse M 0 1 = some (1, sw M 0 0 2) := by
  simp [f_Mo_refuse, nm, sw_at]
theorem refuse_00 (M : Sto) : f_Mo_refuse M 0 0 = some (0, sw M 0 0 0) := by
  simp [f_Mo_refuse, nm, sw_at]
/-- a throw: the class's state stands, the reference's too but for its note -/
theorem st_thr {I : Sto → Sto → Prop} {cs : List (Nat × Int32)} {x : RTT} {y : RT} {V M : Sto} {e : Nat} {k : Int32} (hx : x = some (.inr e, V)) (hm : (e, k) ∈ cs) (hk : k ≠ 0) {b : Int32} (hy : y = some (b, sw M 0 0 k)) (hI : I V (sw M 0 0 k)) : StI I cs x y V 0 :=
  ⟨k, 0, V, b, sw M 0 0 k, Or.inr ⟨e, hm, hx, rfl, hk⟩, hy, by rw [sw_at]; rfl, fun h => absurd h hk, hI, Nat.le_of_eq (Nat.zero_add _)⟩
theorem sv_thr {I : Sto → Sto → Prop} {cs : List (Nat × Int32)} {x : RTT} {y : RT} {V M : Sto} {e : Nat} {k : Int32} (hx : x = some (.inr e, V)) (hm : (e, k) ∈ cs) (hk : k ≠ 0) {b : Int32} (hy : y = some (b, sw M 0 0 k)) (hI : I V (sw M 0 0 k)) : StV I cs x y V :=
  ⟨k, 0, V, b, sw M 0 0 k, Or.inr ⟨e, hm, hx, rfl, hk⟩, hy, by rw [sw_at]; rfl, trivial, hI, Nat.le_of_eq (Nat.zero_add _)⟩
theorem phi_eq {V W : Sto} (h : W 1000 = V 1000) : phi W = phi V := by unfold phi; rw [h]
