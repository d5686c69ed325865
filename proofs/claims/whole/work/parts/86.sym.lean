/-! a symbol that comes -/
def yV (V : Sto) (u n b f s v : Int32) : Sto := sw (sw (sw (sw (sw (sw (sw (tla V) 21 ((V 3 0).toNatClampNeg) u) 22 ((V 3 0).toNatClampNeg) n) 23 ((V 3 0).toNatClampNeg) b) 3 0 (nI ((V 3 0).toNatClampNeg + 1))) 24 ((V 3 0).toNatClampNeg) f) 25 ((V 3 0).toNatClampNeg) s) 26 ((V 3 0).toNatClampNeg) v
def yM (V M : Sto) (u n b f s v : Int32) : Sto := sw (sw (sw (sw (sw (sw (sw (tld (sw M 0 0 0)) 9 ((V 3 0).toNatClampNeg) u) 10 ((V 3 0).toNatClampNeg) f) 11 ((V 3 0).toNatClampNeg) s) 12 ((V 3 0).toNatClampNeg) v) 13 ((V 3 0).toNatClampNeg) n) 14 ((V 3 0).toNatClampNeg) b) 0 13 (nI ((V 3 0).toNatClampNeg + 1))
section YV
variable {V M : Sto} {u n b f s v : Int32}
theorem yV_3 : yV V u n b f s v 3 0 = nI ((V 3 0).toNatClampNeg + 1) := by simp (disch := decide) [yV, sw_at, sw_ne]
theorem yV_n (h : (V 3 0).toNatClampNeg < 400) : ((yV V u n b f s v) 3 0).toNatClampNeg = (V 3 0).toNatClampNeg + 1 := by rw [yV_3, nI_clamp (by omega)]
theorem yV_21 (y : Nat) : yV V u n b f s v 21 y = if y = (V 3 0).toNatClampNeg then u else V 21 y := by simp (disch := decide) [yV, sw_at, sw_ne, tla_o]
theorem yV_22 (y : Nat) : yV V u n b f s v 22 y = if y = (V 3 0).toNatClampNeg then n else V 22 y := by simp (disch := decide) [yV, sw_at, sw_ne, tla_o]
theorem yV_23 (y : Nat) : yV V u n b f s v 23 y = if y = (V 3 0).toNatClampNeg then b else V 23 y := by simp (disch := decide) [yV, sw_at, sw_ne, tla_o]
theorem yV_24 (y : Nat) : yV V u n b f s v 24 y = if y = (V 3 0).toNatClampNeg then f else V 24 y := by simp (disch := decide) [yV, sw_at, sw_ne, tla_o]
theorem yV_25 (y : Nat) : yV V u n b f s v 25 y = if y = (V 3 0).toNatClampNeg then s else V 25 y := by simp (disch := decide) [yV, sw_at, sw_ne, tla_o]
theorem yV_26 (y : Nat) : yV V u n b f s v 26 y = if y = (V 3 0).toNatClampNeg then v else V 26 y := by simp (disch := decide) [yV, sw_at, sw_ne, tla_o]
theorem yV_o {q : Nat} (h0 : q ≠ 0) (h3 : q ≠ 3) (h21 : q ≠ 21) (h22 : q ≠ 22) (h23 : q ≠ 23) (h24 : q ≠ 24) (h25 : q ≠ 25) (h26 : q ≠ 26) : yV V u n b f s v q = V q := by
  unfold yV
  rw [sw_ne h26, sw_ne h25, sw_ne h24, sw_ne h3, sw_ne h23, sw_ne h22, sw_ne h21, tla_o V h0]
end YV
theorem yV_WF {V : Sto} (u n b f s v : Int32) (h : WF V) (hn : (V 3 0).toNatClampNeg < 400) (hu : ib u ((V 1 0).toNatClampNeg) = true) (hnm : ib n 200 = true) (hb : ib b 4 = true)
  (hf : (f = 0 ∧ (b = 1 ∨ b = 2) ∧ s = -1) ∨ (f = 1 ∧ b ≠ 3 ∧ ib s ((V 2 0).toNatClampNeg) = true ∧ V 15 (s.toNatClampNeg) = u) ∨ (f = 2 ∧ b ≠ 3 ∧ s = -1) ∨ (f = 3 ∧ b = 3 ∧ s = -1 ∧ ib v 8193 = true ∧ 4 ≤ v.toNatClampNeg ∧ v.toNatClampNeg % 4 = 0))
  (hq : ∀ y, y < (V 3 0).toNatClampNeg → V 21 y = u → V 22 y = n → V 23 y ≠ 0 → b = 0) : WF (yV V u n b f s v) := ⟨by simpa (disch := decide) [yV, nu, ns, ny, nr, ct, sw_at, sw_ne, tla_0, tla_o] using h.u0,
  by simpa (disch := decide) [yV, nu, ns, ny, nr, ct, sw_at, sw_ne, tla_0, tla_o] using h.u1,
  by simpa (disch := decide) [yV, nu, ns, ny, nr, ct, sw_at, sw_ne, tla_0, tla_o] using h.s0,
  by simpa (disch := decide) [yV, nu, ns, ny, nr, ct, sw_at, sw_ne, tla_0, tla_o] using h.s1,
  by rw [yV_n hn, yV_3],
  by rw [yV_n hn]; omega,
  by simpa (disch := decide) [yV, nu, ns, ny, nr, ct, sw_at, sw_ne, tla_0, tla_o] using h.r0,
  by simpa (disch := decide) [yV, nu, ns, ny, nr, ct, sw_at, sw_ne, tla_0, tla_o] using h.r1,
  by simpa (disch := decide) [yV, nu, ns, ny, nr, ct, sw_at, sw_ne, tla_0, tla_o] using h.arc,
  by simpa (disch := decide) [yV, nu, ns, ny, nr, ct, sw_at, sw_ne, tla_0, tla_o] using h.su,
  by simpa (disch := decide) [yV, nu, ns, ny, nr, ct, sw_at, sw_ne, tla_0, tla_o] using h.sk,
  by simpa (disch := decide) [yV, nu, ns, ny, nr, ct, sw_at, sw_ne, tla_0, tla_o] using h.sz,
  by simpa (disch := decide) [yV, nu, ns, ny, nr, ct, sw_at, sw_ne, tla_0, tla_o] using h.al,
  by simpa (disch := decide) [yV, nu, ns, ny, nr, ct, sw_at, sw_ne, tla_0, tla_o] using h.kp,
  by simpa (disch := decide) [yV, nu, ns, ny, nr, ct, sw_at, sw_ne, tla_0, tla_o] using h.l0,
  by simpa (disch := decide) [yV, nu, ns, ny, nr, ct, sw_at, sw_ne, tla_0, tla_o] using h.l1,
  by simpa (disch := decide) [yV, nu, ns, ny, nr, ct, sw_at, sw_ne, tla_0, tla_o] using h.b0,
  by simpa (disch := decide) [yV, nu, ns, ny, nr, ct, sw_at, sw_ne, tla_0, tla_o] using h.b1,
  by simpa (disch := decide) [yV, nu, ns, ny, nr, ct, sw_at, sw_ne, tla_0, tla_o] using h.t0,
  by simpa (disch := decide) [yV, nu, ns, ny, nr, ct, sw_at, sw_ne, tla_0, tla_o] using h.t1,
  by simpa (disch := decide) [yV, nu, ns, ny, nr, ct, sw_at, sw_ne, tla_0, tla_o] using h.fw,
  by simpa (disch := decide) [yV, nu, ns, ny, nr, ct, sw_at, sw_ne, tla_0, tla_o] using h.fd,
  by
    intro y hy
    rw [yV_n hn] at hy
    rw [yV_o (V := V) (u := u) (n := n) (b := b) (f := f) (s := s) (v := v) (q := 1) (by decide) (by decide) (by decide) (by decide) (by decide) (by decide) (by decide) (by decide)]; rw [yV_21]; skip
    by_cases e : y = (V 3 0).toNatClampNeg
    · subst e
      simp only [if_true]
      exact hu
    · simp only [if_neg e]
      exact h.yu y (by omega),
  by
    intro y hy
    rw [yV_n hn] at hy
    rw [yV_22]; skip
    by_cases e : y = (V 3 0).toNatClampNeg
    · subst e
      simp only [if_true]
      exact hnm
    · simp only [if_neg e]
      exact h.yn y (by omega),
  by
    intro y hy
    rw [yV_n hn] at hy
    rw [yV_23]; skip
    by_cases e : y = (V 3 0).toNatClampNeg
    · subst e
      simp only [if_true]
      exact hb
    · simp only [if_neg e]
      exact h.yb y (by omega),
  by
    intro y hy
    rw [yV_n hn] at hy
    rw [yV_o (V := V) (u := u) (n := n) (b := b) (f := f) (s := s) (v := v) (q := 2) (by decide) (by decide) (by decide) (by decide) (by decide) (by decide) (by decide) (by decide)]; rw [yV_o (V := V) (u := u) (n := n) (b := b) (f := f) (s := s) (v := v) (q := 15) (by decide) (by decide) (by decide) (by decide) (by decide) (by decide) (by decide) (by decide)]; rw [yV_21]; rw [yV_23]; rw [yV_24]; rw [yV_25]; rw [yV_26]; skip
    by_cases e : y = (V 3 0).toNatClampNeg
    · subst e
      simp only [if_true]
      exact hf
    · simp only [if_neg e]
      exact h.yf y (by omega),
  by
    intro y z hyz hz
    rw [yV_n hn] at hz
    rw [yV_21, yV_21, yV_22, yV_22, yV_23, yV_23, if_neg (show ¬ y = (V 3 0).toNatClampNeg by omega), if_neg (show ¬ y = (V 3 0).toNatClampNeg by omega), if_neg (show ¬ y = (V 3 0).toNatClampNeg by omega)]
    by_cases e : z = (V 3 0).toNatClampNeg
    · rw [if_pos e, if_pos e, if_pos e]
      intro g1 g2 g3
      exact hq y (by omega) g1 g2 g3
    · rw [if_neg e, if_neg e, if_neg e]
      exact h.uq y z hyz (by omega),
  by simpa (disch := decide) [yV, nu, ns, ny, nr, ct, sw_at, sw_ne, tla_0, tla_o] using h.rs,
  by simpa (disch := decide) [yV, nu, ns, ny, nr, ct, sw_at, sw_ne, tla_0, tla_o] using h.rp,
  by simpa (disch := decide) [yV, nu, ns, ny, nr, ct, sw_at, sw_ne, tla_0, tla_o] using h.rt,
  by
    intro r hr
    rw [yV_o (V := V) (u := u) (n := n) (b := b) (f := f) (s := s) (v := v) (q := 4) (by decide) (by decide) (by decide) (by decide) (by decide) (by decide) (by decide) (by decide)] at hr
    have h1 := h.ry r hr
    have h2 := ib_lt h1.1
    rw [yV_o (V := V) (u := u) (n := n) (b := b) (f := f) (s := s) (v := v) (q := 30) (by decide) (by decide) (by decide) (by decide) (by decide) (by decide) (by decide) (by decide), yV_o (V := V) (u := u) (n := n) (b := b) (f := f) (s := s) (v := v) (q := 27) (by decide) (by decide) (by decide) (by decide) (by decide) (by decide) (by decide) (by decide), yV_o (V := V) (u := u) (n := n) (b := b) (f := f) (s := s) (v := v) (q := 15) (by decide) (by decide) (by decide) (by decide) (by decide) (by decide) (by decide) (by decide), yV_n hn, yV_21, if_neg (by omega)]
    exact ⟨ib_mono h1.1 (Nat.le_succ _), h1.2⟩,
  by simpa (disch := decide) [yV, nu, ns, ny, nr, ct, sw_at, sw_ne, tla_0, tla_o] using h.en,
  by simpa (disch := decide) [yV, nu, ns, ny, nr, ct, sw_at, sw_ne, tla_0, tla_o] using h.fo,
  by simpa (disch := decide) [yV, nu, ns, ny, nr, ct, sw_at, sw_ne, tla_0, tla_o] using h.gr⟩
theorem yV_Rel {V M : Sto} (u n b f s v : Int32) (h : RelD V M) (hn : (V 3 0).toNatClampNeg < 400) : RelD (yV V u n b f s v) (yM V M u n b (srt f) s v) := ⟨by simpa (disch := decide) [yV, yM, ny, ct, sw_at, sw_ne, tla_0, tld_0, tla_o, tld_o] using h.u0,
  by simpa (disch := decide) [yV, yM, ny, ct, sw_at, sw_ne, tla_0, tld_0, tla_o, tld_o] using h.s0,
  by simpa (disch := decide) [yV, yM, ny, ct, sw_at, sw_ne, tla_0, tld_0, tla_o, tld_o] using h.b0,
  by simpa (disch := decide) [yV, yM, ny, ct, sw_at, sw_ne, tla_0, tld_0, tla_o, tld_o] using h.t0,
  by simp (disch := decide) [yV, yM, sw_at, sw_ne],
  by simpa (disch := decide) [yV, yM, ny, ct, sw_at, sw_ne, tla_0, tld_0, tla_o, tld_o] using h.r0,
  by simpa (disch := decide) [yV, yM, ny, ct, sw_at, sw_ne, tla_0, tld_0, tla_o, tld_o] using h.en,
  by simpa (disch := decide) [yV, yM, ny, ct, sw_at, sw_ne, tla_0, tld_0, tla_o, tld_o] using h.fo,
  by simpa (disch := decide) [yV, yM, ny, ct, sw_at, sw_ne, tla_0, tld_0, tla_o, tld_o] using h.gr,
  by simpa (disch := decide) [yV, yM, ny, ct, sw_at, sw_ne, tla_0, tld_0, tla_o, tld_o] using h.arc,
  by simpa (disch := decide) [yV, yM, ny, ct, sw_at, sw_ne, tla_0, tld_0, tla_o, tld_o] using h.su,
  by simpa (disch := decide) [yV, yM, ny, ct, sw_at, sw_ne, tla_0, tld_0, tla_o, tld_o] using h.sk,
  by simpa (disch := decide) [yV, yM, ny, ct, sw_at, sw_ne, tla_0, tld_0, tla_o, tld_o] using h.sz,
  by simpa (disch := decide) [yV, yM, ny, ct, sw_at, sw_ne, tla_0, tld_0, tla_o, tld_o] using h.al,
  by simpa (disch := decide) [yV, yM, ny, ct, sw_at, sw_ne, tla_0, tld_0, tla_o, tld_o] using h.fw,
  by simpa (disch := decide) [yV, yM, ny, ct, sw_at, sw_ne, tla_0, tld_0, tla_o, tld_o] using h.kp,
  by simpa (disch := decide) [yV, yM, ny, ct, sw_at, sw_ne, tla_0, tld_0, tla_o, tld_o] using h.wd,
  by simp (disch := decide) only [yV, yM, sw_ne]; exact swcong (by simpa (disch := decide) [tla_o, tld_o, sw_ne] using h.yu),
  by
    intro y hy
    rw [yV_n hn] at hy
    rw [yV_24]
    have e : yM V M u n b (srt f) s v 10 y = if y = (V 3 0).toNatClampNeg then srt f else M 10 y := by simp (disch := decide) [yM, sw_at, sw_ne, tld_o]
    rw [e]
    by_cases e2 : y = (V 3 0).toNatClampNeg
    · rw [if_pos e2, if_pos e2]
    · rw [if_neg e2, if_neg e2]
      exact h.yf y (by omega),
  by simp (disch := decide) only [yV, yM, sw_ne]; exact swcong (by simpa (disch := decide) [tla_o, tld_o, sw_ne] using h.ys),
  by simp (disch := decide) only [yV, yM, sw_ne]; exact swcong (by simpa (disch := decide) [tla_o, tld_o, sw_ne] using h.yv),
  by simp (disch := decide) only [yV, yM, sw_ne]; exact swcong (by simpa (disch := decide) [tla_o, tld_o, sw_ne] using h.yn),
  by simp (disch := decide) only [yV, yM, sw_ne]; exact swcong (by simpa (disch := decide) [tla_o, tld_o, sw_ne] using h.yb),
  by simpa (disch := decide) [yV, yM, ny, ct, sw_at, sw_ne, tla_0, tld_0, tla_o, tld_o] using h.rs,
  by simpa (disch := decide) [yV, yM, ny, ct, sw_at, sw_ne, tla_0, tld_0, tla_o, tld_o] using h.rp,
  by simpa (disch := decide) [yV, yM, ny, ct, sw_at, sw_ne, tla_0, tld_0, tla_o, tld_o] using h.rt,
  by simpa (disch := decide) [yV, yM, ny, ct, sw_at, sw_ne, tla_0, tld_0, tla_o, tld_o] using h.ry,
  by simpa (disch := decide) [yV, yM, ny, ct, sw_at, sw_ne, tla_0, tld_0, tla_o, tld_o] using h.ra⟩
theorem yV_F (V M : Sto) (u n b f g s v : Int32) : RelF (yV V u n b f s v) (yM V M u n b g s v) := ⟨by simp (disch := decide) [yV, yM, bb, sw_at, sw_ne, tla_0, tld_0, tla_o, tld_o], by simp (disch := decide) [yV, yM, bb, sw_at, sw_ne, tla_0, tld_0, tla_o, tld_o], by simp (disch := decide) [yV, yM, bb, sw_at, sw_ne, tla_0, tld_0, tla_o, tld_o], by simp (disch := decide) [yV, yM, bb, sw_at, sw_ne, tla_0, tld_0, tla_o, tld_o], by simp (disch := decide) [yV, yM, bb, sw_at, sw_ne, tla_0, tld_0, tla_o, tld_o]⟩
theorem symC_eq {V : Sto} (h : WF V) (hn : (V 3 0).toNatClampNeg < 400) (u n b f s v : Int32) : (cl (f_Sy_add (tla V) u n b) fun r5 V5 => cl (f_Sy_define V5 r5 f s v) fun _ V6 => some (.inl r5, V6) : RTT) = some (.inl (V 3 0), yV V u n b f s v) := by
  have hb : ib (V 3 0) 400 = true := ib_cnt h.y0 hn (by decide)
  have e3 : tla V 3 = V 3 := tla_o V (by decide)
  unfold f_Sy_add f_Sy_define yV
  simp (disch := decide) only [e3, hb, ck_mk, nm_mk, sw_ne, cl_mk, inc_cnt h.y0]
theorem newSym_eq {V M : Sto} (h : WF V) (hr : RelD V M) (hn : (V 3 0).toNatClampNeg < 400) (u n b f s v : Int32) : f_Mo_newSymbol (sw M 0 0 0) u f s v n b = some (V 3 0, yM V M u n b f s v) := by
  have hb : ib (V 3 0) 400 = true := ib_cnt h.y0 hn (by decide)
  have e3 : tld (sw M 0 0 0) 0 13 = V 3 0 := by rw [tld_0, sw_at]; exact hr.y0
  unfold f_Mo_newSymbol yM
  simp (disch := decide) only [tld_eq, cl_mk, e3, hb, ck_mk, nm_mk, sw_ne, sw_at, if_true, inc_cnt h.y0, add_sub1]
