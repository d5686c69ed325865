/-! What is reached, and the class's way to find it. -/
def dY (V : Sto) (r : Nat) : Nat := (V 30 r).toNatClampNeg
def entS (V W : Sto) : Int32 := if V 0 11 = -1 then -1 else if dfr W ((V 0 11).toNatClampNeg) = -1 then -1 else V 25 ((dfr W ((V 0 11).toNatClampNeg)).toNatClampNeg)
def rtS (V : Sto) (A : Nat → Bool) (W : Sto) (s : Nat) : Prop := (s < (V 2 0).toNatClampNeg ∧ ¬ V 20 s = 0 ∧ A ((V 15 s).toNatClampNeg) = true) ∨ (s < (V 2 0).toNatClampNeg ∧ entS V W = nI s)
def clo (V W : Sto) (Y : Nat → Prop) : Prop := ∀ r, r < (V 4 0).toNatClampNeg → Y (sec V r) → W 40 (dY V r) = 1 → Y ((W 41 (dY V r)).toNatClampNeg)
def Rch (V : Sto) (A : Nat → Bool) (W : Sto) (s : Nat) : Prop := ∀ Y : Nat → Prop, (∀ t, rtS V A W t → Y t) → clo V W Y → Y s
def CR (V : Sto) (A : Nat → Bool) (W : Sto) (n : Nat) : Prop := ∃ r, r < (V 4 0).toNatClampNeg ∧ Rch V A W (sec V r) ∧ W 40 (dY V r) = 3 ∧ (W 41 (dY V r)).toNatClampNeg = n
theorem Rch.root {V W : Sto} {A : Nat → Bool} {s : Nat} (h : rtS V A W s) : Rch V A W s := fun Y h1 _ => h1 s h
theorem Rch.step {V W : Sto} {A : Nat → Bool} {r : Nat} (hr : r < (V 4 0).toNatClampNeg) (h : Rch V A W (sec V r)) (h1 : W 40 (dY V r) = 1) : Rch V A W ((W 41 (dY V r)).toNatClampNeg) := fun Y h2 h3 => h3 r hr (h Y h2 h3) h1
theorem dY_lt {V : Sto} (h : WF V) {r : Nat} (hr : r < (V 4 0).toNatClampNeg) : dY V r < (V 3 0).toNatClampNeg ∧ dU V (dY V r) = (V 15 (sec V r)).toNatClampNeg ∧ V 30 r = nI (dY V r) := by
  obtain ⟨h1, h2⟩ := h.ry r hr
  refine ⟨ib_lt h1, ?_, ib_eq h1⟩
  show (V 21 ((V 30 r).toNatClampNeg)).toNatClampNeg = _
  rw [h2]
  rfl
theorem sec_lt {V : Sto} (h : WF V) {r : Nat} (hr : r < (V 4 0).toNatClampNeg) : sec V r < (V 2 0).toNatClampNeg ∧ V 27 r = nI (sec V r) := ⟨ib_lt (h.rs r hr).1, ib_eq (h.rs r hr).1⟩
abbrev MFs (V : Sto) (A : Nat → Bool) (W : Sto) : Prop := ∀ y, y < ny V → A (dU V y) = true → MF V A W y
theorem ent_ok {V W : Sto} (h : WF V) {A : Nat → Bool} (hN : N1 V A ((V 3 0).toNatClampNeg) W) : entS V W = -1 ∨ ∃ s, s < (V 2 0).toNatClampNeg ∧ entS V W = nI s ∧ A ((V 15 s).toNatClampNeg) = true := by
  have hy1 := h.y1
  unfold entS
  rcases h.en with e | e
  · exact Or.inl (by rw [if_pos e])
  · rw [if_neg (ib_ne e)]
    rcases hN.dfrO (by omega) (ib_lt e) with d | ⟨d, d1, d2, d3⟩
    · exact Or.inl (by rw [if_pos d])
    · rw [if_neg (by rw [d2]; exact m1_ne d (by omega)), d2, cI (by omega)]
      have g : A (dU V d) = true := by
        rcases d3 with z | z
        · exact (gB_iff.mp z).1
        · exact (gB_iff.mp z).1
      rcases h.yf d d1 with ⟨-, -, f⟩ | ⟨-, -, f, f2⟩ | ⟨-, -, f⟩ | ⟨-, -, f, -⟩
      · exact Or.inl f
      · refine Or.inr ⟨(V 25 d).toNatClampNeg, ib_lt f, ib_eq f, ?_⟩
        rw [f2]
        exact g
      · exact Or.inl f
      · exact Or.inl f
theorem Rch.inn {V W : Sto} (h : WF V) {A : Nat → Bool} (hN : N1 V A ((V 3 0).toNatClampNeg) W) (hF : MFs V A W) {s : Nat} (hs : Rch V A W s) : s < (V 2 0).toNatClampNeg ∧ A ((V 15 s).toNatClampNeg) = true := by
  have hs1 := h.s1
  refine hs (fun s => s < (V 2 0).toNatClampNeg ∧ A ((V 15 s).toNatClampNeg) = true) ?_ ?_
  · rintro t (⟨t1, -, t3⟩ | ⟨t0, t1⟩)
    · exact ⟨t1, t3⟩
    · refine ⟨t0, ?_⟩
      rcases ent_ok h hN with e | ⟨s, e1, e2, e3⟩
      · rw [e] at t1
        exact absurd t1.symm (m1_ne t (by omega))
      · rw [e2] at t1
        have := (nI_eq (by omega) (by omega)).mp t1
        subst this
        exact e3
  · rintro r hr ⟨r1, r2⟩ hm
    obtain ⟨y1, y2, -⟩ := dY_lt h hr
    rcases hF _ y1 (by rw [y2]; exact r2) with ⟨e, -⟩ | ⟨-, e2, e3⟩ | ⟨e, -⟩ | ⟨e, -⟩
    · rw [hm] at e; exact absurd e (by decide)
    · exact ⟨ib_lt e2, e3⟩
    · rw [hm] at e; exact absurd e (by decide)
    · rw [hm] at e; exact absurd e (by decide)
/-- how many are found -/
def cnt (X : Sto) : Nat := (List.range 96).countP (fun s => decide (X 43 s = 1))
theorem cnt_le (X : Sto) : cnt X ≤ 96 := by
  have := List.countP_le_length (p := fun s => decide (X 43 s = 1)) (l := List.range 96)
  rw [List.length_range] at this
  exact this
theorem countP_set {l : List Nat} (hl : l.Nodup) {p q : Nat → Bool} {a : Nat} (ha : a ∈ l) (hp : p a = false) (hq : q a = true) (ho : ∀ x, x ≠ a → q x = p x) : l.countP q = l.countP p + 1 := by
  induction l with
  | nil => cases ha
  | cons b l ih =>
    rw [List.countP_cons, List.countP_cons]
    rw [List.nodup_cons] at hl
    by_cases e : a = b
    · subst e
      rw [hp, hq]
      have : l.countP q = l.countP p := List.countP_congr (fun x hx => by
        rw [ho x (fun z => hl.1 (z ▸ hx))])
      rw [this]
      simp
    · rcases List.mem_cons.mp ha with f | f
      · exact absurd f e
      · rw [ih hl.2 f, ho b (fun z => e z.symm)]
        omega
theorem cnt_set {X Y : Sto} {s : Nat} (hs : s < 96) (h0 : X 43 s = 0) (h1 : Y 43 s = 1) (ho : ∀ t, t ≠ s → Y 43 t = X 43 t) : cnt Y = cnt X + 1 := by
  unfold cnt
  refine countP_set List.nodup_range (a := s) (List.mem_range.mpr hs) (by rw [h0]; decide) (by rw [h1]; decide) (fun t ht => by rw [ho t ht])
def RI (V : Sto) (A : Nat → Bool) (W : Sto) (d : Nat) (X : Sto) : Prop :=
  (X 7 6 = nI (cnt X)) ∧
  (d ≤ cnt X) ∧
  (∀ j, j < cnt X → ∃ s, s < (V 2 0).toNatClampNeg ∧ X 45 j = nI s ∧ X 43 s = 1) ∧
  (∀ s, s < 96 → X 43 s = 0 ∨ (X 43 s = 1 ∧ Rch V A W s ∧ ∃ j, j < cnt X ∧ X 45 j = nI s)) ∧
  (∀ n, n < 200 → X 44 n = 0 ∨ (X 44 n = 1 ∧ CR V A W n)) ∧
  (∀ j, j < d → ∀ r, r < (V 4 0).toNatClampNeg → X 45 j = nI (sec V r) → W 40 (dY V r) = 1 → X 43 ((W 41 (dY V r)).toNatClampNeg) = 1) ∧
  (∀ j, j < d → ∀ r, r < (V 4 0).toNatClampNeg → X 45 j = nI (sec V r) → W 40 (dY V r) = 3 → X 44 ((W 41 (dY V r)).toNatClampNeg) = 1)
theorem RI.f {V : Sto} {A : Nat → Bool} {W : Sto} {d : Nat} {X : Sto} (h : RI V A W d X) : X 7 6 = nI (cnt X) := h.1
theorem RI.dl {V : Sto} {A : Nat → Bool} {W : Sto} {d : Nat} {X : Sto} (h : RI V A W d X) : d ≤ cnt X := h.2.1
theorem RI.q {V : Sto} {A : Nat → Bool} {W : Sto} {d : Nat} {X : Sto} (h : RI V A W d X) : ∀ j, j < cnt X → ∃ s, s < (V 2 0).toNatClampNeg ∧ X 45 j = nI s ∧ X 43 s = 1 := h.2.2.1
theorem RI.r {V : Sto} {A : Nat → Bool} {W : Sto} {d : Nat} {X : Sto} (h : RI V A W d X) : ∀ s, s < 96 → X 43 s = 0 ∨ (X 43 s = 1 ∧ Rch V A W s ∧ ∃ j, j < cnt X ∧ X 45 j = nI s) := h.2.2.2.1
theorem RI.c {V : Sto} {A : Nat → Bool} {W : Sto} {d : Nat} {X : Sto} (h : RI V A W d X) : ∀ n, n < 200 → X 44 n = 0 ∨ (X 44 n = 1 ∧ CR V A W n) := h.2.2.2.2.1
theorem RI.d1 {V : Sto} {A : Nat → Bool} {W : Sto} {d : Nat} {X : Sto} (h : RI V A W d X) : ∀ j, j < d → ∀ r, r < (V 4 0).toNatClampNeg → X 45 j = nI (sec V r) → W 40 (dY V r) = 1 → X 43 ((W 41 (dY V r)).toNatClampNeg) = 1 := h.2.2.2.2.2.1
theorem RI.d3 {V : Sto} {A : Nat → Bool} {W : Sto} {d : Nat} {X : Sto} (h : RI V A W d X) : ∀ j, j < d → ∀ r, r < (V 4 0).toNatClampNeg → X 45 j = nI (sec V r) → W 40 (dY V r) = 3 → X 44 ((W 41 (dY V r)).toNatClampNeg) = 1 := h.2.2.2.2.2.2
/-- nothing found is lost -/
def Gr (X Y : Sto) : Prop :=
  (cnt X ≤ cnt Y) ∧
  (∀ j, j < cnt X → Y 45 j = X 45 j) ∧
  (∀ s, X 43 s = 1 → Y 43 s = 1) ∧
  (∀ n, X 44 n = 1 → Y 44 n = 1)
theorem Gr.c {X Y : Sto} (h : Gr X Y) : cnt X ≤ cnt Y := h.1
theorem Gr.q {X Y : Sto} (h : Gr X Y) : ∀ j, j < cnt X → Y 45 j = X 45 j := h.2.1
theorem Gr.r {X Y : Sto} (h : Gr X Y) : ∀ s, X 43 s = 1 → Y 43 s = 1 := h.2.2.1
theorem Gr.n {X Y : Sto} (h : Gr X Y) : ∀ n, X 44 n = 1 → Y 44 n = 1 := h.2.2.2
theorem Gr.refl {X : Sto} : Gr X X := ⟨Nat.le_refl _, fun _ _ => rfl, fun _ h => h, fun _ h => h⟩
theorem Gr.trans {X Y Z : Sto} (h : Gr X Y) (g : Gr Y Z) : Gr X Z := ⟨Nat.le_trans h.c g.c, fun j hj => by
  have := h.c
  rw [g.q j (by omega), h.q j hj], fun s hs => g.r s (h.r s hs), fun n hn => g.n n (h.n n hn)⟩
theorem find_eq {V W X : Sto} (h : WF V) {A : Nat → Bool} {d : Nat} (hX : RI V A W d X) {s : Nat} (hs : s < (V 2 0).toNatClampNeg) (hR : Rch V A W s) : ∃ Y, f_Rc_find X (nI s) = some (0, Y) ∧ Only [7, 43, 45] X Y ∧ RI V A W d Y ∧ Y 43 s = 1 ∧ Gr X Y := by
  have hs1 := h.s1
  unfold f_Rc_find
  rw [ib_nI (show s < 96 by omega) (by decide), ck_mk, cI (by omega)]
  rcases hX.r s (by omega) with e | ⟨e, e2, e3⟩
  · rw [if_pos e, ck_mk, nm_mk]
    have hlt : cnt X < 96 := by
      have := countP_lt (l := List.range 96) (p := fun _ => true) (q := fun s => decide (X 43 s = 1)) (fun _ _ _ => rfl) (List.mem_range.mpr (show s < 96 by omega)) rfl (by rw [e]; decide)
      rw [List.countP_eq_length.mpr (fun _ _ => rfl), List.length_range] at this
      exact this
    rw [sw_ne (show (7 : Nat) ≠ 43 by decide), hX.f, ib_nI hlt (by decide), ck_mk, nm_mk, cI (by omega), sw_ne (show (7 : Nat) ≠ 45 by decide), sw_ne (show (7 : Nat) ≠ 43 by decide), hX.f, nm_mk, nI1]
    obtain ⟨Y, hY⟩ : ∃ Y, sw (sw (sw X 43 s 1) 45 (cnt X) (nI s)) 7 6 (nI (cnt X + 1)) = Y := ⟨_, rfl⟩
    rw [hY]
    have y7 : Y 7 6 = nI (cnt X + 1) := by rw [← hY, sw_at, if_pos rfl]
    have y43 : ∀ t, Y 43 t = if t = s then 1 else X 43 t := fun t => by rw [← hY, sw_ne (by decide), sw_ne (by decide), sw_at]
    have y45 : ∀ j, Y 45 j = if j = cnt X then nI s else X 45 j := fun j => by rw [← hY, sw_ne (by decide), sw_at, sw_ne (by decide)]
    have y44 : Y 44 = X 44 := by rw [← hY, sw_ne (by decide), sw_ne (by decide), sw_ne (by decide)]
    have hc : cnt Y = cnt X + 1 := cnt_set (show s < 96 by omega) e (by rw [y43, if_pos rfl]) (fun t ht => by rw [y43, if_neg ht])
    have hO : Only [7, 43, 45] X Y := by rw [← hY]; exact ((Only.refl.sw (by decide)).sw (by decide)).sw (by decide)
    have up : ∀ t, X 43 t = 1 → Y 43 t = 1 := fun t ht => by
      rw [y43]
      by_cases c : t = s
      · rw [if_pos c]
      · rw [if_neg c]; exact ht
    have hdl := hX.dl
    refine ⟨Y, rfl, hO, ⟨by rw [y7, hc], by omega, fun j hj => ?_, fun t ht => ?_, fun n hn => ?_, fun j hj r hr he hm => ?_, fun j hj r hr he hm => ?_⟩, by rw [y43, if_pos rfl], ⟨by omega, fun j hj => by rw [y45, if_neg (by omega)], up, fun n hn => by rw [y44]; exact hn⟩⟩
    · rw [y45]
      by_cases c : j = cnt X
      · rw [if_pos c]; exact ⟨s, hs, rfl, by rw [y43, if_pos rfl]⟩
      · rw [if_neg c]
        obtain ⟨t, t1, t2, t3⟩ := hX.q j (by omega)
        exact ⟨t, t1, t2, up t t3⟩
    · by_cases c : t = s
      · subst c
        exact Or.inr ⟨by rw [y43, if_pos rfl], hR, cnt X, by omega, by rw [y45, if_pos rfl]⟩
      · rcases hX.r t ht with f | ⟨f1, f2, j, f3, f4⟩
        · exact Or.inl (by rw [y43, if_neg c]; exact f)
        · exact Or.inr ⟨up t f1, f2, j, by omega, by rw [y45, if_neg (by omega)]; exact f4⟩
    · rw [y44]; exact hX.c n hn
    · rw [y45, if_neg (by omega)] at he
      exact up _ (hX.d1 j hj r hr he hm)
    · rw [y45, if_neg (by omega)] at he
      rw [y44]
      exact hX.d3 j hj r hr he hm
  · rw [if_neg (by rw [e]; decide)]
    exact ⟨X, rfl, Only.refl, hX, e, Gr.refl⟩
