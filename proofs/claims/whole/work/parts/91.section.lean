/-! a section that comes -/
def aV (V : Sto) (u k z a : Int32) : Sto := sw (sw (sw (sw (sw (sw (sw (tla V) 15 ((V 2 0).toNatClampNeg) u) 16 ((V 2 0).toNatClampNeg) k) 17 ((V 2 0).toNatClampNeg) z) 18 ((V 2 0).toNatClampNeg) a) 19 ((V 2 0).toNatClampNeg) (V 2 2)) 20 ((V 2 0).toNatClampNeg) 0) 2 1 (V 2 1 + z)
def SecP (V W : Sto) (u k z a : Int32) (m : Nat) : Prop :=
  (∀ q, q ≠ 0 → q ≠ 2 → q ≠ 14 → q ≠ 15 → q ≠ 16 → q ≠ 17 → q ≠ 18 → q ≠ 19 → q ≠ 20 → q ≠ 1000 → W q = V q) ∧
  (W 0 = tla V 0) ∧
  (W 2 0 = nI ((V 2 0).toNatClampNeg + 1)) ∧
  (W 2 1 = nI ((V 2 1).toNatClampNeg + z.toNatClampNeg)) ∧
  (W 2 2 = nI ((V 2 2).toNatClampNeg + m)) ∧
  (W 15 = sw V 15 ((V 2 0).toNatClampNeg) u 15) ∧
  (W 16 = sw V 16 ((V 2 0).toNatClampNeg) k 16) ∧
  (W 17 = sw V 17 ((V 2 0).toNatClampNeg) z 17) ∧
  (W 18 = sw V 18 ((V 2 0).toNatClampNeg) a 18) ∧
  (W 19 = sw V 19 ((V 2 0).toNatClampNeg) (V 2 2) 19) ∧
  (W 20 = sw V 20 ((V 2 0).toNatClampNeg) 0 20) ∧
  (∀ j, j < (V 2 2).toNatClampNeg → W 14 j = V 14 j) ∧
  (∀ j, (V 2 2).toNatClampNeg ≤ j → j < (V 2 2).toNatClampNeg + m → W 14 j = 0) ∧
  (W 1000 14 = nI ((W 1000 14).toNatClampNeg)) ∧
  ((V 2 2).toNatClampNeg + m ≤ (W 1000 14).toNatClampNeg) ∧
  (1024 ≤ (W 1000 14).toNatClampNeg ∧ (W 1000 14).toNatClampNeg ≤ 100000) ∧
  (gsA V k z + phi V ≤ phi W)
theorem SecP.o {V W : Sto} {u k z a : Int32} {m : Nat} (h : SecP V W u k z a m) : ∀ q, q ≠ 0 → q ≠ 2 → q ≠ 14 → q ≠ 15 → q ≠ 16 → q ≠ 17 → q ≠ 18 → q ≠ 19 → q ≠ 20 → q ≠ 1000 → W q = V q := h.1
theorem SecP.c {V W : Sto} {u k z a : Int32} {m : Nat} (h : SecP V W u k z a m) : W 0 = tla V 0 := h.2.1
theorem SecP.n0 {V W : Sto} {u k z a : Int32} {m : Nat} (h : SecP V W u k z a m) : W 2 0 = nI ((V 2 0).toNatClampNeg + 1) := h.2.2.1
theorem SecP.n1 {V W : Sto} {u k z a : Int32} {m : Nat} (h : SecP V W u k z a m) : W 2 1 = nI ((V 2 1).toNatClampNeg + z.toNatClampNeg) := h.2.2.2.1
theorem SecP.n2 {V W : Sto} {u k z a : Int32} {m : Nat} (h : SecP V W u k z a m) : W 2 2 = nI ((V 2 2).toNatClampNeg + m) := h.2.2.2.2.1
theorem SecP.d15 {V W : Sto} {u k z a : Int32} {m : Nat} (h : SecP V W u k z a m) : W 15 = sw V 15 ((V 2 0).toNatClampNeg) u 15 := h.2.2.2.2.2.1
theorem SecP.d16 {V W : Sto} {u k z a : Int32} {m : Nat} (h : SecP V W u k z a m) : W 16 = sw V 16 ((V 2 0).toNatClampNeg) k 16 := h.2.2.2.2.2.2.1
theorem SecP.d17 {V W : Sto} {u k z a : Int32} {m : Nat} (h : SecP V W u k z a m) : W 17 = sw V 17 ((V 2 0).toNatClampNeg) z 17 := h.2.2.2.2.2.2.2.1
theorem SecP.d18 {V W : Sto} {u k z a : Int32} {m : Nat} (h : SecP V W u k z a m) : W 18 = sw V 18 ((V 2 0).toNatClampNeg) a 18 := h.2.2.2.2.2.2.2.2.1
theorem SecP.d19 {V W : Sto} {u k z a : Int32} {m : Nat} (h : SecP V W u k z a m) : W 19 = sw V 19 ((V 2 0).toNatClampNeg) (V 2 2) 19 := h.2.2.2.2.2.2.2.2.2.1
theorem SecP.d20 {V W : Sto} {u k z a : Int32} {m : Nat} (h : SecP V W u k z a m) : W 20 = sw V 20 ((V 2 0).toNatClampNeg) 0 20 := h.2.2.2.2.2.2.2.2.2.2.1
theorem SecP.w0 {V W : Sto} {u k z a : Int32} {m : Nat} (h : SecP V W u k z a m) : ∀ j, j < (V 2 2).toNatClampNeg → W 14 j = V 14 j := h.2.2.2.2.2.2.2.2.2.2.2.1
theorem SecP.w1 {V W : Sto} {u k z a : Int32} {m : Nat} (h : SecP V W u k z a m) : ∀ j, (V 2 2).toNatClampNeg ≤ j → j < (V 2 2).toNatClampNeg + m → W 14 j = 0 := h.2.2.2.2.2.2.2.2.2.2.2.2.1
theorem SecP.l0 {V W : Sto} {u k z a : Int32} {m : Nat} (h : SecP V W u k z a m) : W 1000 14 = nI ((W 1000 14).toNatClampNeg) := h.2.2.2.2.2.2.2.2.2.2.2.2.2.1
theorem SecP.l1 {V W : Sto} {u k z a : Int32} {m : Nat} (h : SecP V W u k z a m) : (V 2 2).toNatClampNeg + m ≤ (W 1000 14).toNatClampNeg := h.2.2.2.2.2.2.2.2.2.2.2.2.2.2.1
theorem SecP.l2 {V W : Sto} {u k z a : Int32} {m : Nat} (h : SecP V W u k z a m) : 1024 ≤ (W 1000 14).toNatClampNeg ∧ (W 1000 14).toNatClampNeg ≤ 100000 := h.2.2.2.2.2.2.2.2.2.2.2.2.2.2.2.1
theorem SecP.ph {V W : Sto} {u k z a : Int32} {m : Nat} (h : SecP V W u k z a m) : gsA V k z + phi V ≤ phi W := h.2.2.2.2.2.2.2.2.2.2.2.2.2.2.2.2
theorem aV_cell {V : Sto} {u k z a : Int32} {q : Nat} (h0 : q ≠ 0) (h2 : q ≠ 2) (h15 : q ≠ 15) (h16 : q ≠ 16) (h17 : q ≠ 17) (h18 : q ≠ 18) (h19 : q ≠ 19) (h20 : q ≠ 20) : aV V u k z a q = V q := by
  unfold aV
  rw [sw_ne h2, sw_ne h20, sw_ne h19, sw_ne h18, sw_ne h17, sw_ne h16, sw_ne h15, tla_o V h0]
theorem aV_2 (V : Sto) (u k z a : Int32) (j : Nat) : aV V u k z a 2 j = if j = 1 then V 2 1 + z else V 2 j := by
  simp (disch := decide) [aV, sw_at, sw_ne, tla_o]
theorem cell_d {V W : Sto} {q : Nat} {n : Nat} {x : Int32} (h : W q = V q) : sw W q n x q = sw V q n x q := swcong h
theorem bytes_add {V : Sto} (h : WF V) {z : Int32} (hz : ib z 8193 = true) : V 2 1 + z = nI ((V 2 1).toNatClampNeg + z.toNatClampNeg) := by
  have e := nI_add ((V 2 1).toNatClampNeg) (z.toNatClampNeg)
  rw [← h.b0, ← ib_eq hz] at e
  exact e
/-- how many words it holds -/
def mw4 (k z : Int32) : Nat := if k = 2 then 0 else z.toNatClampNeg / 4
theorem add_sec {V : Sto} (h : WF V) (hn : (V 2 0).toNatClampNeg < 96) (u k z a : Int32) (hz : ib z 8193 = true) (hb : (V 2 1).toNatClampNeg + z.toNatClampNeg ≤ 400000) : ∃ W, f_Se_add (tla V) u k z a = some (V 2 0, W) ∧ SecP V W u k z a (mw4 k z) := by
  have h20 : ib (V 2 0) 96 = true := ib_cnt h.s0 hn (by decide)
  have e2 : tla V 2 = V 2 := tla_o V (by decide)
  have hst : f_Se_add (tla V) u k z a = if k = 2 then some (V 2 0, sw (aV V u k z a) 2 0 (nI ((V 2 0).toNatClampNeg + 1))) else cl (f_Se_store (aV V u k z a) (z / 4)) fun r1 V9 => nm (sw V9 2 0 ((V9 2 0) + 1)) fun V10 => some (V9 2 0, V10) := by
    unfold f_Se_add aV
    simp (disch := decide) only [e2, h20, ck_mk, nm_mk, sw_ne]
    by_cases hk : k = 2
    · rw [if_pos hk, if_pos hk]
      simp (disch := decide) only [sw_at, sw_ne, e2, if_neg (show ¬ (0 : Nat) = 1 by decide), inc_cnt h.s0]
    · rw [if_neg hk, if_neg hk]
  have a2 : ∀ j, aV V u k z a 2 j = if j = 1 then V 2 1 + z else V 2 j := aV_2 V u k z a
  have ds : aV V u k z a 15 = sw V 15 ((V 2 0).toNatClampNeg) u 15 ∧ aV V u k z a 16 = sw V 16 ((V 2 0).toNatClampNeg) k 16 ∧ aV V u k z a 17 = sw V 17 ((V 2 0).toNatClampNeg) z 17 ∧ aV V u k z a 18 = sw V 18 ((V 2 0).toNatClampNeg) a 18 ∧ aV V u k z a 19 = sw V 19 ((V 2 0).toNatClampNeg) (V 2 2) 19 ∧ aV V u k z a 20 = sw V 20 ((V 2 0).toNatClampNeg) 0 20 := by
    unfold aV
    refine ⟨?_, ?_, ?_, ?_, ?_, ?_⟩ <;> simp (disch := decide) only [sw_ne] <;> exact swcong (by simp (disch := decide) only [sw_ne, tla_o])
  have a0 : aV V u k z a 0 = tla V 0 := by unfold aV; simp (disch := decide) only [sw_ne]
  have a14 : aV V u k z a 14 = V 14 := aV_cell (by decide) (by decide) (by decide) (by decide) (by decide) (by decide) (by decide) (by decide)
  have a1000 : aV V u k z a 1000 = V 1000 := aV_cell (by decide) (by decide) (by decide) (by decide) (by decide) (by decide) (by decide) (by decide)
  have a22 : aV V u k z a 2 2 = V 2 2 := by rw [a2, if_neg (by decide)]
  have a20 : aV V u k z a 2 0 = V 2 0 := by rw [a2, if_neg (by decide)]
  have a21 : aV V u k z a 2 1 = nI ((V 2 1).toNatClampNeg + z.toNatClampNeg) := by rw [a2, if_pos rfl, bytes_add h hz]
  have ht1 := h.t1
  have hl1 := h.l1
  by_cases hk : k = 2
  · rw [hst, if_pos hk]
    have hm : mw4 k z = 0 := if_pos hk
    rw [hm]
    refine ⟨_, rfl, fun q q0 q2 q14 q15 q16 q17 q18 q19 q20 q1000 => ?_, ?_, ?_, ?_, ?_, ?_, ?_, ?_, ?_, ?_, ?_, ?_, ?_, ?_, ?_, ?_, ?_⟩
    · rw [sw_ne q2, aV_cell q0 q2 q15 q16 q17 q18 q19 q20]
    · rw [sw_ne (by decide), a0]
    · rw [sw_at, if_pos rfl]
    · rw [sw_at, if_neg (by decide), a21]
    · rw [sw_at, if_neg (by decide), a22]; exact h.t0
    · rw [sw_ne (by decide), ds.1]
    · rw [sw_ne (by decide), ds.2.1]
    · rw [sw_ne (by decide), ds.2.2.1]
    · rw [sw_ne (by decide), ds.2.2.2.1]
    · rw [sw_ne (by decide), ds.2.2.2.2.1]
    · rw [sw_ne (by decide), ds.2.2.2.2.2]
    · intro j _; rw [sw_ne (by decide), a14]
    · intro j j1 j2; omega
    · rw [sw_ne (by decide), a1000]; exact h.l0
    · rw [sw_ne (by decide), a1000]; exact ht1.1
    · rw [sw_ne (by decide), a1000]; exact hl1
    · have : gsA V k z = 0 := if_pos hk
      rw [this, Nat.zero_add]
      refine Nat.le_of_eq (phi_eq ?_).symm
      rw [sw_ne (by decide), a1000]
  · rw [hst, if_neg hk]
    have hm : mw4 k z = z.toNatClampNeg / 4 := if_neg hk
    have hzd : z / 4 = nI (z.toNatClampNeg / 4) := div4 (ib_iff.mp hz).1
    obtain ⟨W, hW, sp⟩ := store_eq (V := aV V u k z a) (m := z.toNatClampNeg / 4) (by rw [a22]; exact h.t0) (by rw [a1000]; exact h.l0) (by rw [a1000]; exact hl1) (by rw [a22]; omega) (by rw [a22, a1000]; exact ht1.1)
    rw [← hzd] at hW
    rw [hW, cl_mk, nm_mk, sp.c0, a20]
    rw [hm]
    have so := sp.o
    have s2 := sp.c2
    have sw0 := sp.w0
    have sw1 := sp.w1
    have sl1 := sp.l1
    have sph := sp.ph
    rw [a22] at s2 sw0 sw1 sl1
    have so' : ∀ q, q ≠ 14 → q ≠ 2 → q ≠ 1000 → W q = aV V u k z a q := so
    refine ⟨_, rfl, fun q q0 q2 q14 q15 q16 q17 q18 q19 q20 q1000 => ?_, ?_, ?_, ?_, ?_, ?_, ?_, ?_, ?_, ?_, ?_, ?_, ?_, ?_, ?_, ?_, ?_⟩
    · rw [sw_ne q2, so' q q14 q2 q1000, aV_cell q0 q2 q15 q16 q17 q18 q19 q20]
    · rw [sw_ne (by decide), so' 0 (by decide) (by decide) (by decide), a0]
    · rw [sw_at, if_pos rfl, inc_cnt h.s0]
    · rw [sw_at, if_neg (by decide), sp.c1, a21]
    · rw [sw_at, if_neg (by decide)]; exact s2
    · rw [sw_ne (by decide), so' 15 (by decide) (by decide) (by decide), ds.1]
    · rw [sw_ne (by decide), so' 16 (by decide) (by decide) (by decide), ds.2.1]
    · rw [sw_ne (by decide), so' 17 (by decide) (by decide) (by decide), ds.2.2.1]
    · rw [sw_ne (by decide), so' 18 (by decide) (by decide) (by decide), ds.2.2.2.1]
    · rw [sw_ne (by decide), so' 19 (by decide) (by decide) (by decide), ds.2.2.2.2.1]
    · rw [sw_ne (by decide), so' 20 (by decide) (by decide) (by decide), ds.2.2.2.2.2]
    · intro j hj; rw [sw_ne (by decide), sw0 j hj, a14]
    · intro j j1 j2; rw [sw_ne (by decide)]; exact sw1 j j1 j2
    · rw [sw_ne (by decide)]; exact sp.l0
    · rw [sw_ne (by decide)]; exact sl1
    · rw [sw_ne (by decide)]; exact sp.l2
    · have e1 : gsA V k z = gs (aV V u k z a) (nI (z.toNatClampNeg / 4)) := by
        unfold gsA
        rw [if_neg hk, hzd]
        unfold gs gnew glen
        rw [a22, a1000]
      have e2 : phi (aV V u k z a) = phi V := phi_eq a1000
      have e3 : phi (sw W 2 0 (V 2 0 + 1)) = phi W := phi_eq (by rw [sw_ne (by decide)])
      rw [e1, e3, ← e2]
      exact sph
theorem secP_WF {V W : Sto} {u k z a : Int32} (h : WF V) (hp : SecP V W u k z a (mw4 k z)) (hn : (V 2 0).toNatClampNeg < 96) (hu : ib u ((V 1 0).toNatClampNeg) = true) (hk : ib k 3 = true) (hz : ib z 8193 = true) (hz4 : z.toNatClampNeg % 4 = 0) (ha : goodA a = true) (hb : (V 2 1).toNatClampNeg + z.toNatClampNeg ≤ 400000) : WF W := by
  have o : ∀ q, q ≠ 0 → q ≠ 2 → q ≠ 14 → q ≠ 15 → q ≠ 16 → q ≠ 17 → q ≠ 18 → q ≠ 19 → q ≠ 20 → q ≠ 1000 → W q = V q := hp.o
  have oq : ∀ q, (decide (q = 0 ∨ q = 2 ∨ q = 14 ∨ q = 15 ∨ q = 16 ∨ q = 17 ∨ q = 18 ∨ q = 19 ∨ q = 20 ∨ q = 1000)) = false → W q = V q := by
    intro q hq
    have := of_decide_eq_false hq
    simp only [not_or] at this
    obtain ⟨a0, a1, a2, a3, a4, a5, a6, a7, a8, a9⟩ := this
    exact o q a0 a1 a2 a3 a4 a5 a6 a7 a8 a9
  have en : (W 2 0).toNatClampNeg = (V 2 0).toNatClampNeg + 1 := by rw [hp.n0, nI_clamp (by omega)]
  have e1 : (W 2 1).toNatClampNeg = (V 2 1).toNatClampNeg + z.toNatClampNeg := by rw [hp.n1, nI_clamp (by omega)]
  have hm4 : mw4 k z ≤ z.toNatClampNeg / 4 := by
    unfold mw4
    split <;> omega
  have ht := h.t1
  have hl := h.l1
  have e2 : (W 2 2).toNatClampNeg = (V 2 2).toNatClampNeg + mw4 k z := by rw [hp.n2, nI_clamp (by omega)]
  have at15 : ∀ s, W 15 s = if s = (V 2 0).toNatClampNeg then u else V 15 s := fun s => by rw [hp.d15, sw_at]
  have at16 : ∀ s, W 16 s = if s = (V 2 0).toNatClampNeg then k else V 16 s := fun s => by rw [hp.d16, sw_at]
  have at17 : ∀ s, W 17 s = if s = (V 2 0).toNatClampNeg then z else V 17 s := fun s => by rw [hp.d17, sw_at]
  have at18 : ∀ s, W 18 s = if s = (V 2 0).toNatClampNeg then a else V 18 s := fun s => by rw [hp.d18, sw_at]
  have at19 : ∀ s, W 19 s = if s = (V 2 0).toNatClampNeg then V 2 2 else V 19 s := fun s => by rw [hp.d19, sw_at]
  have at20 : ∀ s, W 20 s = if s = (V 2 0).toNatClampNeg then 0 else V 20 s := fun s => by rw [hp.d20, sw_at]
  have c0 := hp.c
  refine ⟨?_, ?_, ?_, ?_, ?_, ?_, ?_, ?_, ?_, ?_, ?_, ?_, ?_, ?_, hp.l0, hp.l2, ?_, ?_, ?_, ?_, ?_, ?_, ?_, ?_, ?_, ?_, ?_, ?_, ?_, ?_, ?_, ?_, ?_, ?_⟩
  · rw [oq 1 rfl]; exact h.u0
  · rw [oq 1 rfl]; exact h.u1
  · rw [en, hp.n0]
  · rw [en]; omega
  · rw [oq 3 rfl]; exact h.y0
  · rw [oq 3 rfl]; exact h.y1
  · rw [oq 4 rfl]; exact h.r0
  · rw [oq 4 rfl]; exact h.r1
  · rw [oq 1 rfl, oq 12 rfl]; exact h.arc
  · intro s hs
    rw [en] at hs
    rw [oq 1 rfl, at15]
    by_cases e : s = (V 2 0).toNatClampNeg
    · rw [if_pos e]; exact hu
    · rw [if_neg e]; exact h.su s (by omega)
  · intro s hs
    rw [en] at hs
    rw [at16]
    by_cases e : s = (V 2 0).toNatClampNeg
    · rw [if_pos e]; exact hk
    · rw [if_neg e]; exact h.sk s (by omega)
  · intro s hs
    rw [en] at hs
    rw [at17]
    by_cases e : s = (V 2 0).toNatClampNeg
    · rw [if_pos e]; exact ⟨hz, hz4⟩
    · rw [if_neg e]; exact h.sz s (by omega)
  · intro s hs
    rw [en] at hs
    rw [at18]
    by_cases e : s = (V 2 0).toNatClampNeg
    · rw [if_pos e]; exact goodA_e ha
    · rw [if_neg e]; exact h.al s (by omega)
  · intro s hs
    rw [en] at hs
    rw [at20]
    by_cases e : s = (V 2 0).toNatClampNeg
    · rw [if_pos e]; rfl
    · rw [if_neg e]; exact h.kp s (by omega)
  · rw [e1, hp.n1]
  · rw [e1]; exact hb
  · rw [e2, hp.n2]
  · rw [e2, e1]
    exact ⟨hp.l1, by omega⟩
  · intro s hs
    rw [en] at hs
    rw [at19, at16, at17, e2]
    by_cases e : s = (V 2 0).toNatClampNeg
    · rw [if_pos e, if_pos e, if_pos e]
      refine ⟨ib_cnt h.t0 (by omega) (by decide), fun hk2 => ?_⟩
      have : mw4 k z = z.toNatClampNeg / 4 := if_neg hk2
      omega
    · rw [if_neg e, if_neg e, if_neg e]
      have := h.fw s (by omega)
      exact ⟨this.1, fun hk2 => by have := this.2 hk2; omega⟩
  · intro s t hst ht2
    rw [en] at ht2
    rw [at16, at19, at17, at19, if_neg (show ¬ s = (V 2 0).toNatClampNeg by omega), if_neg (show ¬ s = (V 2 0).toNatClampNeg by omega), if_neg (show ¬ s = (V 2 0).toNatClampNeg by omega)]
    by_cases e : t = (V 2 0).toNatClampNeg
    · rw [if_pos e]
      intro hk2
      exact (h.fw s (by omega)).2 hk2
    · rw [if_neg e]
      exact h.fd s t hst (by omega)
  · rw [oq 3 rfl, oq 21 rfl, oq 1 rfl]; exact h.yu
  · rw [oq 3 rfl, oq 22 rfl]; exact h.yn
  · rw [oq 3 rfl, oq 23 rfl]; exact h.yb
  · intro y hy
    rw [oq 3 rfl] at hy
    rw [oq 24 rfl, oq 23 rfl, oq 25 rfl, oq 21 rfl, oq 26 rfl, en]
    rcases h.yf y hy with hh | ⟨g1, g2, g3, g4⟩ | hh | hh
    · exact Or.inl hh
    · refine Or.inr (Or.inl ⟨g1, g2, ib_mono g3 (Nat.le_succ _), ?_⟩)
      rw [at15, if_neg (by have := ib_lt g3; omega)]
      exact g4
    · exact Or.inr (Or.inr (Or.inl hh))
    · exact Or.inr (Or.inr (Or.inr hh))
  · rw [oq 3 rfl, oq 21 rfl, oq 22 rfl, oq 23 rfl]; exact h.uq
  · intro r hr
    rw [oq 4 rfl] at hr
    have := h.rs r hr
    have hlt := ib_lt this.1
    rw [oq 27 rfl, en, at16, if_neg (by omega)]
    exact ⟨ib_mono this.1 (Nat.le_succ _), this.2⟩
  · intro r hr
    rw [oq 4 rfl] at hr
    have hlt := ib_lt (h.rs r hr).1
    rw [oq 28 rfl, oq 27 rfl, at17, if_neg (by omega)]
    exact h.rp r hr
  · rw [oq 4 rfl, oq 29 rfl]; exact h.rt
  · intro r hr
    rw [oq 4 rfl] at hr
    have hlt := ib_lt (h.rs r hr).1
    rw [oq 30 rfl, oq 3 rfl, oq 21 rfl, oq 27 rfl, at15, if_neg (by omega)]
    exact h.ry r hr
  · rw [c0, tla_0]; exact h.en
  · rw [c0, tla_0]; exact h.fo
  · rw [c0, tla_0]; exact h.gr
/-- the reference's section -/
def mV (V M : Sto) (u k z a : Int32) : Sto := sw (sw (sw (sw (sw (sw (sw (tld (sw M 0 0 0)) 2 ((V 2 0).toNatClampNeg) u) 3 ((V 2 0).toNatClampNeg) k) 4 ((V 2 0).toNatClampNeg) z) 5 ((V 2 0).toNatClampNeg) a) 6 ((V 2 0).toNatClampNeg) (V 2 2)) 7 ((V 2 0).toNatClampNeg) 0) 0 10 (V 2 1 + z)
theorem mloop {S : Sto} (k z : Int32) (st : Nat) (h11 : S 0 11 = nI st) (hz : ib z 8193 = true) (hb : st + mw4 k z ≤ 100000) (kk : Sto → RT) : ∃ W, lp_Mo_section_185 k z kk FU 0 S = kk W ∧ (∀ q, q ≠ 0 → q ≠ 8 → W q = S q) ∧ (∀ j, j ≠ 11 → W 0 j = S 0 j) ∧ W 0 11 = nI (st + mw4 k z) ∧ ∀ j, W 8 j = if st ≤ j ∧ j < st + mw4 k z then 0 else S 8 j := by
  by_cases hk : k = 2
  · have hm : mw4 k z = 0 := if_pos hk
    refine ⟨S, ?_, fun q _ _ => rfl, fun j _ => rfl, by rw [hm]; exact h11, fun j => by rw [hm, if_neg (by omega)]⟩
    rw [show FU = 999999 + 1 from rfl, lp_Mo_section_185, if_pos hk]
  · have hm : mw4 k z = z.toNatClampNeg / 4 := if_neg hk
    have hzd : z / 4 = nI (z.toNatClampNeg / 4) := div4 (ib_iff.mp hz).1
    have hzl := ib_lt hz
    rw [hm] at hb ⊢
    have key := forQ (L := lp_Mo_section_185 k z kk) (N := z.toNatClampNeg / 4) (Inv := fun i W => (∀ q, q ≠ 0 → q ≠ 8 → W q = S q) ∧ (∀ j, j ≠ 11 → W 0 j = S 0 j) ∧ W 0 11 = nI (st + i) ∧ ∀ j, W 8 j = if st ≤ j ∧ j < st + i then 0 else S 8 j) (Q := fun r => ∃ W, r = kk W ∧ (∀ q, q ≠ 0 → q ≠ 8 → W q = S q) ∧ (∀ j, j ≠ 11 → W 0 j = S 0 j) ∧ W 0 11 = nI (st + z.toNatClampNeg / 4) ∧ ∀ j, W 8 j = if st ≤ j ∧ j < st + z.toNatClampNeg / 4 then 0 else S 8 j) (by omega) (by
      rintro m i W hi ⟨w1, w2, w3, w4⟩
      rw [lp_Mo_section_185, if_neg hk, hzd, if_neg (nI_ge hi (by omega)), w3, ib_nI (by omega) (by decide), ck_mk, nm_mk, cI (by omega), nm_mk, nI1]
      refine Or.inr ⟨_, rfl, fun q a b => ?_, fun j hj => ?_, ?_, fun j => ?_⟩
      · rw [sw_ne a, sw_ne b]; exact w1 q a b
      · rw [sw_at, if_neg hj, sw_ne (by decide)]; exact w2 j hj
      · rw [sw_at, if_pos rfl, sw_ne (by decide), w3, nI1]; rfl
      · rw [sw_ne (by decide), sw_at, w4]
        by_cases e : j = st + i
        · rw [if_pos e, if_pos ⟨by omega, by omega⟩]
        · rw [if_neg e]
          by_cases c : st ≤ j ∧ j < st + i
          · rw [if_pos c, if_pos ⟨c.1, by omega⟩]
          · rw [if_neg c, if_neg (fun q => c ⟨q.1, by omega⟩)]) (by
      rintro m W ⟨w1, w2, w3, w4⟩
      rw [lp_Mo_section_185, if_neg hk, hzd, if_pos (nI_le (Nat.le_refl _) (by omega))]
      exact ⟨W, rfl, w1, w2, w3, w4⟩) 0 S (Nat.zero_le _) ⟨fun q _ _ => rfl, fun j _ => rfl, h11, fun j => by rw [if_neg (by omega)]⟩
    exact key
def goodS (V : Sto) (p1 p2 p3 p4 : Int32) : Bool := ib p1 ((V 1 0).toNatClampNeg) && (ib p2 3 && ((ib p3 8193 && decide (p3.toNatClampNeg % 4 = 0)) && goodA p4))
theorem sec_C {V : Sto} (h : WF V) (p1 p2 p3 p4 : Int32) : f_Ly_section V p1 p2 p3 p4 = if goodS V p1 p2 p3 p4 = true then (if (V 2 0).toNatClampNeg = 96 ∨ 400000 < (V 2 1).toNatClampNeg + p3.toNatClampNeg then some (.inr 3, V) else cl (f_Se_add (tla V) p1 p2 p3 p4) fun r5 V5 => some (.inl r5, V5)) else some (.inr 0, V) := by
  have e4 : (400000 : Int32).toInt = 400000 := by decide
  have e96 : (96 : Int32).toInt = 96 := by decide
  unfold f_Ly_section goodS
  rw [unHas_eq h, cl_mk]
  by_cases g1 : ib p1 ((V 1 0).toNatClampNeg) = true
  · rw [if_pos g1, if_neg (by decide), g1, Bool.true_and]
    by_cases g2 : ib p2 3 = true
    · have hs := isSize_eq V p3 0 (by decide)
      rw [show nI 0 = (0 : Int32) from rfl] at hs
      simp only [Nat.zero_le, decide_true, Bool.true_and] at hs
      rw [if_neg (ib3.mpr g2).1, if_pos (ib3.mpr g2).2, hs, cl_mk, g2, Bool.true_and]
      by_cases g3 : (ib p3 8193 && decide (p3.toNatClampNeg % 4 = 0)) = true
      · rw [if_pos g3, if_neg (by decide), isAl_eq, cl_mk, g3, Bool.true_and]
        rw [Bool.and_eq_true] at g3
        have hlt := ib_lt g3.1
        have hb1 := h.b1
        have eb := nI_toInt (ct_lt (V 2 1))
        rw [← h.b0] at eb
        have ez := nI_toInt (ct_lt p3)
        rw [← ib_eq g3.1] at ez
        have es := nI_toInt (ct_lt (V 2 0))
        rw [← h.s0] at es
        by_cases g4 : goodA p4 = true
        · rw [if_pos g4, if_neg (by decide), if_pos g4]
          by_cases g5 : (V 2 0).toNatClampNeg = 96
          · rw [if_pos (by rw [Int32.le_iff_toInt_le, e96]; omega), if_pos (Or.inl g5)]
          · rw [if_neg (by rw [Int32.le_iff_toInt_le, e96]; have := h.s1; omega)]
            have esub : (400000 - V 2 1).toInt = 400000 - ((V 2 1).toNatClampNeg : Int) := by rw [subI (by rw [e4]; omega) (by rw [e4]; omega), e4, eb]
            by_cases g6 : 400000 < (V 2 1).toNatClampNeg + p3.toNatClampNeg
            · rw [if_neg (by rw [Int32.le_iff_toInt_le, esub]; omega), if_pos (Or.inr g6)]
            · rw [if_pos (by rw [Int32.le_iff_toInt_le, esub]; omega), if_neg (fun z => z.elim g5 g6), tla_eq, cl_mk]
        · rw [if_neg g4, if_pos rfl, if_neg g4]
      · rw [if_neg g3, if_pos rfl, Bool.eq_false_iff.mpr g3, Bool.false_and, if_neg (show ¬ false = true by decide)]
    · rw [Bool.eq_false_iff.mpr g2, Bool.false_and, if_neg (show ¬ false = true by decide)]
      by_cases g : p2 < 0
      · rw [if_pos g]
      · rw [if_neg g, if_neg (fun z => g2 (ib3.mp ⟨g, z⟩))]
  · rw [if_neg g1, if_pos rfl, Bool.eq_false_iff.mpr g1, Bool.false_and, if_neg (show ¬ false = true by decide)]
theorem ib8193 {p : Int32} : ((0 : Int32) ≤ p ∧ p ≤ 8192) ↔ ib p 8193 = true := by
  have e0 : (0 : Int32).toInt = 0 := by decide
  have e2 : (8192 : Int32).toInt = 8192 := by decide
  rw [ib_iff, Int32.le_iff_toInt_le, Int32.le_iff_toInt_le, e0, e2]
  omega
def SecM (V M W : Sto) (u k z a : Int32) : Prop :=
  (∀ q, q ≠ 0 → q ≠ 2 → q ≠ 3 → q ≠ 4 → q ≠ 5 → q ≠ 6 → q ≠ 7 → q ≠ 8 → W q = M q) ∧
  (∀ j, j ≠ 3 → j ≠ 10 → j ≠ 11 → W 0 j = tld (sw M 0 0 0) 0 j) ∧
  (W 0 3 = nI ((V 2 0).toNatClampNeg + 1)) ∧
  (W 0 10 = V 2 1 + z) ∧
  (W 0 11 = nI ((V 2 2).toNatClampNeg + mw4 k z)) ∧
  (W 2 = sw M 2 ((V 2 0).toNatClampNeg) u 2) ∧
  (W 3 = sw M 3 ((V 2 0).toNatClampNeg) k 3) ∧
  (W 4 = sw M 4 ((V 2 0).toNatClampNeg) z 4) ∧
  (W 5 = sw M 5 ((V 2 0).toNatClampNeg) a 5) ∧
  (W 6 = sw M 6 ((V 2 0).toNatClampNeg) (V 2 2) 6) ∧
  (W 7 = sw M 7 ((V 2 0).toNatClampNeg) 0 7) ∧
  (∀ j, W 8 j = if (V 2 2).toNatClampNeg ≤ j ∧ j < (V 2 2).toNatClampNeg + mw4 k z then 0 else M 8 j)
theorem SecM.o {V M W : Sto} {u k z a : Int32} (h : SecM V M W u k z a) : ∀ q, q ≠ 0 → q ≠ 2 → q ≠ 3 → q ≠ 4 → q ≠ 5 → q ≠ 6 → q ≠ 7 → q ≠ 8 → W q = M q := h.1
theorem SecM.c {V M W : Sto} {u k z a : Int32} (h : SecM V M W u k z a) : ∀ j, j ≠ 3 → j ≠ 10 → j ≠ 11 → W 0 j = tld (sw M 0 0 0) 0 j := h.2.1
theorem SecM.n0 {V M W : Sto} {u k z a : Int32} (h : SecM V M W u k z a) : W 0 3 = nI ((V 2 0).toNatClampNeg + 1) := h.2.2.1
theorem SecM.n1 {V M W : Sto} {u k z a : Int32} (h : SecM V M W u k z a) : W 0 10 = V 2 1 + z := h.2.2.2.1
theorem SecM.n2 {V M W : Sto} {u k z a : Int32} (h : SecM V M W u k z a) : W 0 11 = nI ((V 2 2).toNatClampNeg + mw4 k z) := h.2.2.2.2.1
theorem SecM.d2 {V M W : Sto} {u k z a : Int32} (h : SecM V M W u k z a) : W 2 = sw M 2 ((V 2 0).toNatClampNeg) u 2 := h.2.2.2.2.2.1
theorem SecM.d3 {V M W : Sto} {u k z a : Int32} (h : SecM V M W u k z a) : W 3 = sw M 3 ((V 2 0).toNatClampNeg) k 3 := h.2.2.2.2.2.2.1
theorem SecM.d4 {V M W : Sto} {u k z a : Int32} (h : SecM V M W u k z a) : W 4 = sw M 4 ((V 2 0).toNatClampNeg) z 4 := h.2.2.2.2.2.2.2.1
theorem SecM.d5 {V M W : Sto} {u k z a : Int32} (h : SecM V M W u k z a) : W 5 = sw M 5 ((V 2 0).toNatClampNeg) a 5 := h.2.2.2.2.2.2.2.2.1
theorem SecM.d6 {V M W : Sto} {u k z a : Int32} (h : SecM V M W u k z a) : W 6 = sw M 6 ((V 2 0).toNatClampNeg) (V 2 2) 6 := h.2.2.2.2.2.2.2.2.2.1
theorem SecM.d7 {V M W : Sto} {u k z a : Int32} (h : SecM V M W u k z a) : W 7 = sw M 7 ((V 2 0).toNatClampNeg) 0 7 := h.2.2.2.2.2.2.2.2.2.2.1
theorem SecM.w {V M W : Sto} {u k z a : Int32} (h : SecM V M W u k z a) : ∀ j, W 8 j = if (V 2 2).toNatClampNeg ≤ j ∧ j < (V 2 2).toNatClampNeg + mw4 k z then 0 else M 8 j := h.2.2.2.2.2.2.2.2.2.2.2
theorem sec_good {V M : Sto} (h : WF V) (hr : RelD V M) (p1 p2 p3 p4 : Int32) {K : Sto → RT} (hK : lp_Mo_section_185 p2 p3 (fun V17 => nm (sw V17 0 3 ((V17 0 3) + 1)) fun V18 => some ((V18 0 3) - 1, V18)) FU 0 = K) : f_Mo_section M p1 p2 p3 p4 = (if goodS V p1 p2 p3 p4 = true then (if V 2 0 = 96 then some (0, sw M 0 0 2) else if V 2 1 + p3 ≤ 400000 then cl (f_Mo_told (sw M 0 0 0)) fun r6 V7 =>
      ck (ib (V7 0 3) 96) <| nm (sw V7 2 (V7 0 3).toNatClampNeg p1) fun V8 =>
      ck (ib (V8 0 3) 96) <| nm (sw V8 3 (V8 0 3).toNatClampNeg p2) fun V9 =>
      ck (ib (V9 0 3) 96) <| nm (sw V9 4 (V9 0 3).toNatClampNeg p3) fun V10 =>
      ck (ib (V10 0 3) 96) <| nm (sw V10 5 (V10 0 3).toNatClampNeg p4) fun V11 =>
      ck (ib (V11 0 3) 96) <| nm (sw V11 6 (V11 0 3).toNatClampNeg (V11 0 11)) fun V12 =>
      ck (ib (V12 0 3) 96) <| nm (sw V12 7 (V12 0 3).toNatClampNeg 0) fun V13 =>
      nm (sw V13 0 10 ((V13 0 10) + p3)) fun V14 =>
      K V14 else some (0, sw M 0 0 2)) else some (0, sw M 0 0 1)) := by
  have hm := moHas_eq M (hr.u0.trans h.u0) (Nat.le_trans h.u1 (by decide)) p1
  unfold f_Mo_section goodS
  simp only [hK]
  rw [hm, cl_mk]
  by_cases g1 : ib p1 ((V 1 0).toNatClampNeg) = true
  · simp only [if_pos g1, g1, Bool.true_and, jn_mk, i10, if_false, within_eq, cl_mk]
    by_cases g2 : ib p2 3 = true
    · rw [if_pos (ib3'.mpr g2), g2, Bool.true_and, if_neg (show ¬ (1 : Int32) = 0 by decide)]
      by_cases g3 : ib p3 8193 = true
      · rw [if_pos (ib8193.mpr g3), g3, Bool.true_and, if_neg (show ¬ (1 : Int32) = 0 by decide)]
        by_cases g4 : p3.toNatClampNeg % 4 = 0
        · rw [if_pos ((mod4 (ib_iff.mp g3).1).mpr g4), decide_eq_true g4, Bool.true_and, isAlM_eq, cl_mk]
          by_cases g5 : goodA p4 = true
          · simp only [if_pos g5, i10, if_false, hr.s0, hr.b0, g5, if_true]
            by_cases g6 : V 2 0 = 96
            · simp only [if_pos g6, refuse_01, cl_mk, i10, if_false]
            · simp only [if_neg g6]
              by_cases g7 : V 2 1 + p3 ≤ 400000
              · simp only [if_pos g7, refuse_00, cl_mk, i00, if_true]
              · simp only [if_neg g7, refuse_01, cl_mk, i10, if_false]
          · simp only [if_neg g5, i00, if_true, refuse_10, cl_mk, i10, if_false]
        · rw [if_neg (fun z => g4 ((mod4 (ib_iff.mp g3).1).mp z)), decide_eq_false g4, Bool.false_and]
          simp only [i00, if_true, refuse_10, cl_mk, i10, if_false]
          rw [if_neg (show ¬ false = true by decide)]
      · rw [if_neg (fun z => g3 (ib8193.mp z)), Bool.eq_false_iff.mpr g3, Bool.false_and, Bool.false_and]
        simp only [i00, if_true, refuse_10, cl_mk, i10, if_false]
        rw [if_neg (show ¬ false = true by decide)]
    · rw [if_neg (fun z => g2 (ib3'.mp z)), Bool.eq_false_iff.mpr g2, Bool.false_and]
      simp only [i00, if_true, refuse_10, cl_mk, i10, if_false]
      rw [if_neg (show ¬ false = true by decide)]
  · rw [Bool.eq_false_iff.mpr g1, Bool.false_and]
    simp only [Bool.false_eq_true, jn_mk, i00, if_true, refuse_10, cl_mk, i10, if_false]
theorem sec_M {V M : Sto} (h : WF V) (hr : RelD V M) (p1 p2 p3 p4 : Int32) : (goodS V p1 p2 p3 p4 = true → ((V 2 0).toNatClampNeg = 96 ∨ 400000 < (V 2 1).toNatClampNeg + p3.toNatClampNeg) → f_Mo_section M p1 p2 p3 p4 = some (0, sw M 0 0 2)) ∧ (goodS V p1 p2 p3 p4 = true → ¬ ((V 2 0).toNatClampNeg = 96 ∨ 400000 < (V 2 1).toNatClampNeg + p3.toNatClampNeg) → ∃ W, f_Mo_section M p1 p2 p3 p4 = some (V 2 0, W) ∧ SecM V M W p1 p2 p3 p4) ∧ (goodS V p1 p2 p3 p4 = false → f_Mo_section M p1 p2 p3 p4 = some (0, sw M 0 0 1)) := by
  have hm := moHas_eq M (hr.u0.trans h.u0) (Nat.le_trans h.u1 (by decide)) p1
  have e96 : V 2 0 = 96 ↔ (V 2 0).toNatClampNeg = 96 := by
    constructor
    · intro e; rw [e]; decide
    · intro e
      have := h.s0
      rw [e] at this
      rw [this]; rfl
  obtain ⟨K, hK⟩ : ∃ K : Sto → RT, lp_Mo_section_185 p2 p3 (fun V17 => nm (sw V17 0 3 ((V17 0 3) + 1)) fun V18 => some ((V18 0 3) - 1, V18)) FU 0 = K := ⟨_, rfl⟩
  have hgood := sec_good h hr p1 p2 p3 p4 hK
  have eb := nI_toInt (ct_lt (V 2 1))
  rw [← h.b0] at eb
  have e4 : (400000 : Int32).toInt = 400000 := by decide
  refine ⟨fun hg hf => ?_, fun hg hf => ?_, fun hg => ?_⟩
  · rw [hgood, if_pos hg]
    by_cases c : V 2 0 = 96
    · rw [if_pos c]
    · rw [if_neg c, if_neg]
      have hz : ib p3 8193 = true := by
        unfold goodS at hg
        simp only [Bool.and_eq_true] at hg
        exact hg.2.2.1.1
      have hlt := ib_lt hz
      have := h.b1
      rw [bytes_add h hz, Int32.le_iff_toInt_le, nI_toInt (by omega), e4]
      have hor := hf.resolve_left (fun z => c (e96.mpr z))
      omega
  · rw [hgood, if_pos hg]
    simp only [not_or] at hf
    have hz : ib p3 8193 = true := by
      unfold goodS at hg
      simp only [Bool.and_eq_true] at hg
      exact hg.2.2.1.1
    have hlt := ib_lt hz
    have hb1 := h.b1
    have hs1 := h.s1
    rw [if_neg (fun z => hf.1 (e96.mp z)), if_pos (by rw [bytes_add h hz, Int32.le_iff_toInt_le, nI_toInt (by omega), e4]; omega), tld_eq, cl_mk]
    have f3 : tld (sw M 0 0 0) 0 3 = V 2 0 := by rw [tld_0, sw_at]; exact hr.s0
    have f10 : tld (sw M 0 0 0) 0 10 = V 2 1 := by rw [tld_0, sw_at]; exact hr.b0
    have f11 : tld (sw M 0 0 0) 0 11 = V 2 2 := by rw [tld_0, sw_at]; exact hr.t0
    have h20 : ib (V 2 0) 96 = true := ib_cnt h.s0 (by omega) (by decide)
    have hm4 : mw4 p2 p3 ≤ p3.toNatClampNeg / 4 := by
      unfold mw4
      split <;> omega
    have ht := h.t1
    obtain ⟨W, w1, w2, w3, w4, w5⟩ := mloop (S := mV V M p1 p2 p3 p4) p2 p3 ((V 2 2).toNatClampNeg) (by
      simp (disch := decide) only [mV, sw_at, sw_ne]
      rw [if_neg (by decide), f11]
      exact h.t0) hz (by omega) (fun V17 => nm (sw V17 0 3 ((V17 0 3) + 1)) fun V18 => some ((V18 0 3) - 1, V18))
    have w1' : K (mV V M p1 p2 p3 p4) = (nm (sw W 0 3 ((W 0 3) + 1)) fun V18 => some ((V18 0 3) - 1, V18)) := by
      rw [← hK]
      exact w1
    clear hK w1
    have hgo : ∀ X : RT, X = K (mV V M p1 p2 p3 p4) → ∃ W, X = some (V 2 0, W) ∧ SecM V M W p1 p2 p3 p4 := by
      intro X hX
      rw [w1'] at hX
      have k3 : W 0 3 = V 2 0 := by
        rw [w3 3 (by decide)]
        simp (disch := decide) only [mV, sw_at, sw_ne]
        rw [if_neg (by decide), f3]
      rw [nm_mk, sw_at, if_pos rfl, add_sub1, k3] at hX
      refine ⟨_, hX, fun q q0 q2 q3 q4 q5 q6 q7 q8 => ?_, fun j j3 j10 j11 => ?_, ?_, ?_, ?_, ?_, ?_, ?_, ?_, ?_, ?_, fun j => ?_⟩
      · rw [sw_ne q0, w2 q q0 q8]
        unfold mV
        rw [sw_ne q0, sw_ne q7, sw_ne q6, sw_ne q5, sw_ne q4, sw_ne q3, sw_ne q2, tld_o _ q0, sw_ne q0]
      · rw [sw_at, if_neg j3, w3 j j11]
        simp (disch := decide) only [mV, sw_at, sw_ne]
        rw [if_neg j10]
      · rw [sw_at, if_pos rfl, inc_cnt h.s0]
      · rw [sw_at, if_neg (by decide), w3 10 (by decide)]
        simp (disch := decide) only [mV, sw_at, sw_ne, if_true]
      · rw [sw_at, if_neg (by decide), w4]
      · rw [sw_ne (by decide), w2 2 (by decide) (by decide)]
        simp (disch := decide) only [mV, sw_ne]
        exact swcong (by rw [tld_o _ (by decide), sw_ne (by decide)])
      · rw [sw_ne (by decide), w2 3 (by decide) (by decide)]
        simp (disch := decide) only [mV, sw_ne]
        exact swcong (by simp (disch := decide) only [tld_o, sw_ne])
      · rw [sw_ne (by decide), w2 4 (by decide) (by decide)]
        simp (disch := decide) only [mV, sw_ne]
        exact swcong (by simp (disch := decide) only [tld_o, sw_ne])
      · rw [sw_ne (by decide), w2 5 (by decide) (by decide)]
        simp (disch := decide) only [mV, sw_ne]
        exact swcong (by simp (disch := decide) only [tld_o, sw_ne])
      · rw [sw_ne (by decide), w2 6 (by decide) (by decide)]
        simp (disch := decide) only [mV, sw_ne]
        exact swcong (by simp (disch := decide) only [tld_o, sw_ne])
      · rw [sw_ne (by decide), w2 7 (by decide) (by decide)]
        simp (disch := decide) only [mV, sw_ne]
        exact swcong (by simp (disch := decide) only [tld_o, sw_ne])
      · rw [sw_ne (by decide), w5]
        simp (disch := decide) only [mV, sw_ne, tld_o]
    refine hgo _ ?_
    unfold mV
    simp (disch := decide) only [f3, h20, ck_mk, nm_mk, sw_ne, f11, f10]
  · rw [hgood, hg, if_neg (by decide)]
theorem sec_Rel {V M W N : Sto} {u k z a : Int32} (h : WF V) (hr : RelD V M) (hz : ib z 8193 = true) (sp : SecP V W u k z a (mw4 k z)) (sm : SecM V M N u k z a) (hl : (V 2 2).toNatClampNeg + mw4 k z < 2 ^ 31) : RelD W N := by
  have oq : ∀ q, (decide (q = 0 ∨ q = 2 ∨ q = 14 ∨ q = 15 ∨ q = 16 ∨ q = 17 ∨ q = 18 ∨ q = 19 ∨ q = 20 ∨ q = 1000)) = false → W q = V q := by
    intro q hq
    have := of_decide_eq_false hq
    simp only [not_or] at this
    obtain ⟨a0, a1, a2, a3, a4, a5, a6, a7, a8, a9⟩ := this
    exact sp.o q a0 a1 a2 a3 a4 a5 a6 a7 a8 a9
  have om : ∀ q, (decide (q = 0 ∨ q = 2 ∨ q = 3 ∨ q = 4 ∨ q = 5 ∨ q = 6 ∨ q = 7 ∨ q = 8)) = false → N q = M q := by
    intro q hq
    have := of_decide_eq_false hq
    simp only [not_or] at this
    obtain ⟨a0, a1, a2, a3, a4, a5, a6, a7⟩ := this
    exact sm.o q a0 a1 a2 a3 a4 a5 a6 a7
  have oc : ∀ j, j ≠ 3 → j ≠ 10 → j ≠ 11 → j ≠ 0 → j ≠ 29 → j ≠ 30 → j ≠ 31 → j ≠ 32 → N 0 j = M 0 j := by
    intro j j3 j10 j11 j0 j29 j30 j31 j32
    rw [sm.c j j3 j10 j11, tld_0, if_neg j32, if_neg j31, if_neg j30, if_neg j29, sw_at, if_neg j0]
  have e2 : (W 2 2).toNatClampNeg = (V 2 2).toNatClampNeg + mw4 k z := by rw [sp.n2, nI_clamp hl]
  refine ⟨?_, ?_, ?_, ?_, ?_, ?_, ?_, ?_, ?_, ?_, ?_, ?_, ?_, ?_, ?_, ?_, ?_, ?_, ?_, ?_, ?_, ?_, ?_, ?_, ?_, ?_, ?_, ?_⟩
  · rw [oc 1 (by decide) (by decide) (by decide) (by decide) (by decide) (by decide) (by decide) (by decide), oq 1 rfl]; exact hr.u0
  · rw [sm.n0, sp.n0]
  · rw [sm.n1, sp.n1, bytes_add h hz]
  · rw [sm.n2, sp.n2]
  · rw [oc 13 (by decide) (by decide) (by decide) (by decide) (by decide) (by decide) (by decide) (by decide), oq 3 rfl]; exact hr.y0
  · rw [oc 20 (by decide) (by decide) (by decide) (by decide) (by decide) (by decide) (by decide) (by decide), oq 4 rfl]; exact hr.r0
  · rw [oc 26 (by decide) (by decide) (by decide) (by decide) (by decide) (by decide) (by decide) (by decide), sp.c, tla_0]; exact hr.en
  · rw [oc 27 (by decide) (by decide) (by decide) (by decide) (by decide) (by decide) (by decide) (by decide), sp.c, tla_0]; exact hr.fo
  · rw [oc 28 (by decide) (by decide) (by decide) (by decide) (by decide) (by decide) (by decide) (by decide), sp.c, tla_0]; exact hr.gr
  · rw [om 1 rfl, oq 12 rfl]; exact hr.arc
  · rw [sm.d2, sp.d15]; exact swcong hr.su
  · rw [sm.d3, sp.d16]; exact swcong hr.sk
  · rw [sm.d4, sp.d17]; exact swcong hr.sz
  · rw [sm.d5, sp.d18]; exact swcong hr.al
  · rw [sm.d6, sp.d19]; exact swcong hr.fw
  · rw [sm.d7, sp.d20]; exact swcong hr.kp
  · intro j hj
    rw [e2] at hj
    rw [sm.w]
    by_cases c : (V 2 2).toNatClampNeg ≤ j
    · rw [if_pos ⟨c, hj⟩, sp.w1 j c hj]
    · rw [if_neg (fun q => c q.1), sp.w0 j (by omega)]
      exact hr.wd j (by omega)
  · rw [om 9 rfl, oq 21 rfl]; exact hr.yu
  · rw [oq 3 rfl, om 10 rfl, oq 24 rfl]; exact hr.yf
  · rw [om 11 rfl, oq 25 rfl]; exact hr.ys
  · rw [om 12 rfl, oq 26 rfl]; exact hr.yv
  · rw [om 13 rfl, oq 22 rfl]; exact hr.yn
  · rw [om 14 rfl, oq 23 rfl]; exact hr.yb
  · rw [om 15 rfl, oq 27 rfl]; exact hr.rs
  · rw [om 16 rfl, oq 28 rfl]; exact hr.rp
  · rw [om 17 rfl, oq 29 rfl]; exact hr.rt
  · rw [om 18 rfl, oq 30 rfl]; exact hr.ry
  · rw [om 19 rfl, oq 31 rfl]; exact hr.ra
theorem op_section {I : Sto → Sto → Prop} {V M : Sto} (h : WF V) (hr : RelD V M) (hthr : ∀ k, I V (sw M 0 0 k)) (hT : TI I) (p1 p2 p3 p4 : Int32) : StS I cs_Lw_section (f_Ly_section V p1 p2 p3 p4) (f_Mo_section M p1 p2 p3 p4) V (gsA V p2 p3) := by
  obtain ⟨m1, m2, m3⟩ := sec_M h hr p1 p2 p3 p4
  rw [sec_C h]
  have thr : ∀ (e : Nat) (k : Int32), (e, k) ∈ cs_Lw_section → k ≠ 0 → f_Mo_section M p1 p2 p3 p4 = some (0, sw M 0 0 k) → StS I cs_Lw_section (some (.inr e, V)) (f_Mo_section M p1 p2 p3 p4) V (gsA V p2 p3) := fun e k hm hk hy =>
    ⟨k, 0, V, 0, sw M 0 0 k, Or.inr ⟨e, hm, rfl, rfl, hk⟩, hy, by rw [sw_at]; rfl, fun h => absurd h hk, hthr k, by rw [if_neg hk, Nat.zero_add]; exact Nat.le_refl _⟩
  by_cases g : goodS V p1 p2 p3 p4 = true
  · rw [if_pos g]
    by_cases f : (V 2 0).toNatClampNeg = 96 ∨ 400000 < (V 2 1).toNatClampNeg + p3.toNatClampNeg
    · rw [if_pos f]
      exact thr 3 2 (List.mem_of_getElem? (i := 1) rfl) (by decide) (m1 g f)
    · rw [if_neg f]
      have g' := g
      unfold goodS at g'
      simp only [Bool.and_eq_true, decide_eq_true_eq] at g'
      obtain ⟨g1, g2, ⟨g3, g4⟩, g5⟩ := g'
      obtain ⟨N, hN, sm⟩ := m2 g f
      simp only [not_or] at f
      have hn : (V 2 0).toNatClampNeg < 96 := by have := h.s1; omega
      obtain ⟨W, hW, sp⟩ := add_sec h hn p1 p2 p3 p4 g3 (by omega)
      rw [hW, cl_mk]
      have hzl := ib_lt g3
      have ht := h.t1
      have hl := h.l1
      have hm4 : mw4 p2 p3 ≤ p3.toNatClampNeg / 4 := by
        unfold mw4
        split <;> omega
      refine ⟨0, V 2 0, W, V 2 0, N, Or.inl ⟨rfl, rfl⟩, hN, ?_, fun _ => rfl, hT _ _ ⟨secP_WF h sp hn g1 g2 g3 g4 g5 (by omega), sec_Rel h hr g3 sp sm (by omega), ?_, ?_⟩, ?_⟩
      · rw [sm.c 0 (by decide) (by decide) (by decide), tld_0, sw_at]; rfl
      · have hF := tl_F V (sw M 0 0 0)
        unfold RelF at hF ⊢
        rw [sp.c, sm.c 29 (by decide) (by decide) (by decide), sm.c 30 (by decide) (by decide) (by decide), sm.c 31 (by decide) (by decide) (by decide), sm.c 32 (by decide) (by decide) (by decide)]
        exact hF
      · rw [sp.c, tla_0]; rfl
      · rw [if_pos rfl]; exact sp.ph
  · rw [if_neg g]
    exact thr 0 1 (List.mem_of_getElem? (i := 0) rfl) (by decide) (m3 (Bool.eq_false_iff.mpr g))
