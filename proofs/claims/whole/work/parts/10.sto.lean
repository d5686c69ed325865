/-! The state of a fixed graph of cells: V k j is what the cell k holds at its slot (or place) j. Methods are functions over it, in Option. -/
abbrev Sto : Type := Nat → Nat → Int32
/-- a store: cell k, slot i -/
def sw (V : Sto) (k i : Nat) (x : Int32) : Sto := fun q => if q = k then upd (V k) i x else V q
/-- an index that is within -/
def ib (i : Int32) (n : Nat) : Bool := !(decide (i < 0) || decide (n ≤ i.toNatClampNeg))
/-- a boolean's number -/
def bb (x : Int32) : Bool := decide (x = 0) || decide (x = 1)
abbrev RT : Type := Option (Int32 × Sto)
abbrev RTT : Type := Option ((Int32 ⊕ Nat) × Sto)
def ck {α : Type} (b : Bool) (k : Option α) : Option α := match b with
  | true => k
  | false => none
def nm {α β : Type} (x : α) (k : α → Option β) : Option β := k x
def cl {β : Type} (x : RT) (k : Int32 → Sto → Option β) : Option β := match x with
  | some (r, V) => k r V
  | none => none
def clT (x : RTT) (k : Int32 → Sto → RTT) : RTT := match x with
  | some (.inl r, V) => k r V
  | some (.inr e, V) => some (.inr e, V)
  | none => none
/-- how often a loop may go round: far more than any does -/
def FU : Nat := 1000000
theorem ib_in {i : Int32} {n : Nat} (h : ib i n = true) : vp_in i n := by
  intro q
  unfold ib at h
  rcases q with q | q <;> simp [q] at h
theorem ib_of {i : Int32} {n : Nat} (h : vp_in i n) : ib i n = true := by
  unfold ib
  unfold vp_in at h
  rw [Bool.not_eq_true', Bool.or_eq_false_iff, decide_eq_false_iff_not, decide_eq_false_iff_not]
  exact ⟨fun q => h (Or.inl q), fun q => h (Or.inr q)⟩
theorem ib_nI {n N : Nat} (h : n < N) (hN : N < 2 ^ 31) : ib (nI n) N = true := ib_of (vp_in_nI h hN)
theorem ck_some {α : Type} {b : Bool} {k : Option α} {y : α} (h : ck b k = some y) : b = true ∧ k = some y := by
  cases b with
  | true => exact ⟨rfl, h⟩
  | false => cases h
theorem nm_some {α β : Type} {x : α} {k : α → Option β} {y : β} (h : nm x k = some y) : ∃ z, x = z ∧ k z = some y := ⟨x, rfl, h⟩
theorem cl_some {β : Type} {x : RT} {k : Int32 → Sto → Option β} {y : β} (h : cl x k = some y) : ∃ r V, x = some (r, V) ∧ k r V = some y := by
  cases x with
  | none => cases h
  | some q => exact ⟨q.1, q.2, rfl, h⟩
theorem ck_t {α : Type} {b : Bool} {k : Option α} (h : b = true) : ck b k = k := by rw [h]; rfl
theorem cl_s {β : Type} {x : RT} {k : Int32 → Sto → Option β} {r : Int32} {V : Sto} (h : x = some (r, V)) : cl x k = k r V := by rw [h]; rfl
theorem sw_s (V : Sto) (k i : Nat) (x : Int32) : sw V k i x k i = x := by simp [sw, upd]
theorem sw_n (V : Sto) (k i j : Nat) (x : Int32) (h : j ≠ i) : sw V k i x k j = V k j := by simp [sw, upd, h]
theorem sw_o (V : Sto) (k i q j : Nat) (x : Int32) (h : q ≠ k) : sw V k i x q j = V q j := by simp [sw, h]
theorem ifp {α : Sort _} {c : Prop} {hd : Decidable c} {a b y : α} (hc : c) (h : (@ite α c hd a b) = y) : a = y := by rw [if_pos hc] at h; exact h
theorem ifn {α : Sort _} {c : Prop} {hd : Decidable c} {a b y : α} (hc : ¬ c) (h : (@ite α c hd a b) = y) : b = y := by rw [if_neg hc] at h; exact h
/-- a place where ways meet -/
def jn {α β : Type} (k : α) (f : α → β) : β := f k
theorem jn_some {α β : Type} {k : α} {f : α → Option β} {y : β} (h : jn k f = some y) : ∃ j, k = j ∧ f j = some y := ⟨k, rfl, h⟩
