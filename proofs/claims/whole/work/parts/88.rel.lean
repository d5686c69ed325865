/-! a relocation that comes -/
def rV (V : Sto) (s p o y a : Int32) : Sto := sw (sw (sw (sw (sw (sw (tla V) 27 ((V 4 0).toNatClampNeg) s) 28 ((V 4 0).toNatClampNeg) p) 29 ((V 4 0).toNatClampNeg) o) 30 ((V 4 0).toNatClampNeg) y) 31 ((V 4 0).toNatClampNeg) a) 4 0 (nI ((V 4 0).toNatClampNeg + 1))
def rM (V M : Sto) (s p o y a : Int32) : Sto := sw (sw (sw (sw (sw (sw (tld (sw M 0 0 0)) 15 ((V 4 0).toNatClampNeg) s) 16 ((V 4 0).toNatClampNeg) p) 17 ((V 4 0).toNatClampNeg) o) 18 ((V 4 0).toNatClampNeg) y) 19 ((V 4 0).toNatClampNeg) a) 0 20 (nI ((V 4 0).toNatClampNeg + 1))
section RV
variable {V M : Sto} {s p o y a : Int32}
theorem rV_4 : rV V s p o y a 4 0 = nI ((V 4 0).toNatClampNeg + 1) := by simp (disch := decide) [rV, sw_at, sw_ne]
theorem rV_n (h : (V 4 0).toNatClampNeg < 600) : ((rV V s p o y a) 4 0).toNatClampNeg = (V 4 0).toNatClampNeg + 1 := by rw [rV_4, nI_clamp (by omega)]
theorem rV_27 (r : Nat) : rV V s p o y a 27 r = if r = (V 4 0).toNatClampNeg then s else V 27 r := by simp (disch := decide) [rV, sw_at, sw_ne, tla_o]
theorem rV_28 (r : Nat) : rV V s p o y a 28 r = if r = (V 4 0).toNatClampNeg then p else V 28 r := by simp (disch := decide) [rV, sw_at, sw_ne, tla_o]
theorem rV_29 (r : Nat) : rV V s p o y a 29 r = if r = (V 4 0).toNatClampNeg then o else V 29 r := by simp (disch := decide) [rV, sw_at, sw_ne, tla_o]
theorem rV_30 (r : Nat) : rV V s p o y a 30 r = if r = (V 4 0).toNatClampNeg then y else V 30 r := by simp (disch := decide) [rV, sw_at, sw_ne, tla_o]
theorem rV_31 (r : Nat) : rV V s p o y a 31 r = if r = (V 4 0).toNatClampNeg then a else V 31 r := by simp (disch := decide) [rV, sw_at, sw_ne, tla_o]
theorem rV_o {q : Nat} (h0 : q ≠ 0) (h4 : q ≠ 4) (h27 : q ≠ 27) (h28 : q ≠ 28) (h29 : q ≠ 29) (h30 : q ≠ 30) (h31 : q ≠ 31) : rV V s p o y a q = V q := by
  unfold rV
  rw [sw_ne h4, sw_ne h31, sw_ne h30, sw_ne h29, sw_ne h28, sw_ne h27, tla_o V h0]
end RV
theorem rV_WF {V : Sto} (s p o y a : Int32) (h : WF V) (hn : (V 4 0).toNatClampNeg < 600) (hs : ib s ((V 2 0).toNatClampNeg) = true) (hk : V 16 (s.toNatClampNeg) ≠ 2) (hp : ib p ((V 17 (s.toNatClampNeg)).toNatClampNeg) = true) (hp4 : p.toNatClampNeg % 4 = 0) (ho : ib o 6 = true) (hy : ib y ((V 3 0).toNatClampNeg) = true) (hu : V 21 (y.toNatClampNeg) = V 15 (s.toNatClampNeg)) : WF (rV V s p o y a) := ⟨by simpa (disch := decide) [rV, nu, ns, ny, nr, ct, sw_at, sw_ne, tla_0, tla_o] using h.u0,
  by simpa (disch := decide) [rV, nu, ns, ny, nr, ct, sw_at, sw_ne, tla_0, tla_o] using h.u1,
  by simpa (disch := decide) [rV, nu, ns, ny, nr, ct, sw_at, sw_ne, tla_0, tla_o] using h.s0,
  by simpa (disch := decide) [rV, nu, ns, ny, nr, ct, sw_at, sw_ne, tla_0, tla_o] using h.s1,
  by simpa (disch := decide) [rV, nu, ns, ny, nr, ct, sw_at, sw_ne, tla_0, tla_o] using h.y0,
  by simpa (disch := decide) [rV, nu, ns, ny, nr, ct, sw_at, sw_ne, tla_0, tla_o] using h.y1,
  by rw [rV_n hn, rV_4],
  by rw [rV_n hn]; omega,
  by simpa (disch := decide) [rV, nu, ns, ny, nr, ct, sw_at, sw_ne, tla_0, tla_o] using h.arc,
  by simpa (disch := decide) [rV, nu, ns, ny, nr, ct, sw_at, sw_ne, tla_0, tla_o] using h.su,
  by simpa (disch := decide) [rV, nu, ns, ny, nr, ct, sw_at, sw_ne, tla_0, tla_o] using h.sk,
  by simpa (disch := decide) [rV, nu, ns, ny, nr, ct, sw_at, sw_ne, tla_0, tla_o] using h.sz,
  by simpa (disch := decide) [rV, nu, ns, ny, nr, ct, sw_at, sw_ne, tla_0, tla_o] using h.al,
  by simpa (disch := decide) [rV, nu, ns, ny, nr, ct, sw_at, sw_ne, tla_0, tla_o] using h.kp,
  by simpa (disch := decide) [rV, nu, ns, ny, nr, ct, sw_at, sw_ne, tla_0, tla_o] using h.l0,
  by simpa (disch := decide) [rV, nu, ns, ny, nr, ct, sw_at, sw_ne, tla_0, tla_o] using h.l1,
  by simpa (disch := decide) [rV, nu, ns, ny, nr, ct, sw_at, sw_ne, tla_0, tla_o] using h.b0,
  by simpa (disch := decide) [rV, nu, ns, ny, nr, ct, sw_at, sw_ne, tla_0, tla_o] using h.b1,
  by simpa (disch := decide) [rV, nu, ns, ny, nr, ct, sw_at, sw_ne, tla_0, tla_o] using h.t0,
  by simpa (disch := decide) [rV, nu, ns, ny, nr, ct, sw_at, sw_ne, tla_0, tla_o] using h.t1,
  by simpa (disch := decide) [rV, nu, ns, ny, nr, ct, sw_at, sw_ne, tla_0, tla_o] using h.fw,
  by simpa (disch := decide) [rV, nu, ns, ny, nr, ct, sw_at, sw_ne, tla_0, tla_o] using h.fd,
  by simpa (disch := decide) [rV, nu, ns, ny, nr, ct, sw_at, sw_ne, tla_0, tla_o] using h.yu,
  by simpa (disch := decide) [rV, nu, ns, ny, nr, ct, sw_at, sw_ne, tla_0, tla_o] using h.yn,
  by simpa (disch := decide) [rV, nu, ns, ny, nr, ct, sw_at, sw_ne, tla_0, tla_o] using h.yb,
  by simpa (disch := decide) [rV, nu, ns, ny, nr, ct, sw_at, sw_ne, tla_0, tla_o] using h.yf,
  by simpa (disch := decide) [rV, nu, ns, ny, nr, ct, sw_at, sw_ne, tla_0, tla_o] using h.uq,
  by
    intro r hr
    rw [rV_n hn] at hr
    rw [rV_o (V := V) (s := s) (p := p) (o := o) (y := y) (a := a) (q := 2) (by decide) (by decide) (by decide) (by decide) (by decide) (by decide) (by decide)]; rw [rV_o (V := V) (s := s) (p := p) (o := o) (y := y) (a := a) (q := 16) (by decide) (by decide) (by decide) (by decide) (by decide) (by decide) (by decide)]; rw [rV_27]; skip
    by_cases e : r = (V 4 0).toNatClampNeg
    · subst e
      simp only [if_true]
      exact ⟨hs, hk⟩
    · simp only [if_neg e]
      exact h.rs r (by omega),
  by
    intro r hr
    rw [rV_n hn] at hr
    rw [rV_o (V := V) (s := s) (p := p) (o := o) (y := y) (a := a) (q := 17) (by decide) (by decide) (by decide) (by decide) (by decide) (by decide) (by decide)]; rw [rV_27]; rw [rV_28]; skip
    by_cases e : r = (V 4 0).toNatClampNeg
    · subst e
      simp only [if_true]
      exact ⟨hp, hp4⟩
    · simp only [if_neg e]
      exact h.rp r (by omega),
  by
    intro r hr
    rw [rV_n hn] at hr
    rw [rV_29]; skip
    by_cases e : r = (V 4 0).toNatClampNeg
    · subst e
      simp only [if_true]
      exact ho
    · simp only [if_neg e]
      exact h.rt r (by omega),
  by
    intro r hr
    rw [rV_n hn] at hr
    rw [rV_o (V := V) (s := s) (p := p) (o := o) (y := y) (a := a) (q := 3) (by decide) (by decide) (by decide) (by decide) (by decide) (by decide) (by decide)]; rw [rV_o (V := V) (s := s) (p := p) (o := o) (y := y) (a := a) (q := 21) (by decide) (by decide) (by decide) (by decide) (by decide) (by decide) (by decide)]; rw [rV_o (V := V) (s := s) (p := p) (o := o) (y := y) (a := a) (q := 15) (by decide) (by decide) (by decide) (by decide) (by decide) (by decide) (by decide)]; rw [rV_27]; rw [rV_30]; skip
    by_cases e : r = (V 4 0).toNatClampNeg
    · subst e
      simp only [if_true]
      exact ⟨hy, hu⟩
    · simp only [if_neg e]
      exact h.ry r (by omega),
  by simpa (disch := decide) [rV, nu, ns, ny, nr, ct, sw_at, sw_ne, tla_0, tla_o] using h.en,
  by simpa (disch := decide) [rV, nu, ns, ny, nr, ct, sw_at, sw_ne, tla_0, tla_o] using h.fo,
  by simpa (disch := decide) [rV, nu, ns, ny, nr, ct, sw_at, sw_ne, tla_0, tla_o] using h.gr⟩
theorem rV_Rel {V M : Sto} (s p o y a : Int32) (h : RelD V M) : RelD (rV V s p o y a) (rM V M s p o y a) := ⟨by simpa (disch := decide) [rV, rM, ny, ct, sw_at, sw_ne, tla_0, tld_0, tla_o, tld_o] using h.u0,
  by simpa (disch := decide) [rV, rM, ny, ct, sw_at, sw_ne, tla_0, tld_0, tla_o, tld_o] using h.s0,
  by simpa (disch := decide) [rV, rM, ny, ct, sw_at, sw_ne, tla_0, tld_0, tla_o, tld_o] using h.b0,
  by simpa (disch := decide) [rV, rM, ny, ct, sw_at, sw_ne, tla_0, tld_0, tla_o, tld_o] using h.t0,
  by simpa (disch := decide) [rV, rM, ny, ct, sw_at, sw_ne, tla_0, tld_0, tla_o, tld_o] using h.y0,
  by simp (disch := decide) [rV, rM, sw_at, sw_ne],
  by simpa (disch := decide) [rV, rM, ny, ct, sw_at, sw_ne, tla_0, tld_0, tla_o, tld_o] using h.en,
  by simpa (disch := decide) [rV, rM, ny, ct, sw_at, sw_ne, tla_0, tld_0, tla_o, tld_o] using h.fo,
  by simpa (disch := decide) [rV, rM, ny, ct, sw_at, sw_ne, tla_0, tld_0, tla_o, tld_o] using h.gr,
  by simpa (disch := decide) [rV, rM, ny, ct, sw_at, sw_ne, tla_0, tld_0, tla_o, tld_o] using h.arc,
  by simpa (disch := decide) [rV, rM, ny, ct, sw_at, sw_ne, tla_0, tld_0, tla_o, tld_o] using h.su,
  by simpa (disch := decide) [rV, rM, ny, ct, sw_at, sw_ne, tla_0, tld_0, tla_o, tld_o] using h.sk,
  by simpa (disch := decide) [rV, rM, ny, ct, sw_at, sw_ne, tla_0, tld_0, tla_o, tld_o] using h.sz,
  by simpa (disch := decide) [rV, rM, ny, ct, sw_at, sw_ne, tla_0, tld_0, tla_o, tld_o] using h.al,
  by simpa (disch := decide) [rV, rM, ny, ct, sw_at, sw_ne, tla_0, tld_0, tla_o, tld_o] using h.fw,
  by simpa (disch := decide) [rV, rM, ny, ct, sw_at, sw_ne, tla_0, tld_0, tla_o, tld_o] using h.kp,
  by simpa (disch := decide) [rV, rM, ny, ct, sw_at, sw_ne, tla_0, tld_0, tla_o, tld_o] using h.wd,
  by simpa (disch := decide) [rV, rM, ny, ct, sw_at, sw_ne, tla_0, tld_0, tla_o, tld_o] using h.yu,
  by simpa (disch := decide) [rV, rM, ny, ct, sw_at, sw_ne, tla_0, tld_0, tla_o, tld_o] using h.yf,
  by simpa (disch := decide) [rV, rM, ny, ct, sw_at, sw_ne, tla_0, tld_0, tla_o, tld_o] using h.ys,
  by simpa (disch := decide) [rV, rM, ny, ct, sw_at, sw_ne, tla_0, tld_0, tla_o, tld_o] using h.yv,
  by simpa (disch := decide) [rV, rM, ny, ct, sw_at, sw_ne, tla_0, tld_0, tla_o, tld_o] using h.yn,
  by simpa (disch := decide) [rV, rM, ny, ct, sw_at, sw_ne, tla_0, tld_0, tla_o, tld_o] using h.yb,
  by simp (disch := decide) only [rV, rM, sw_ne]; exact swcong (by simpa (disch := decide) [tla_o, tld_o, sw_ne] using h.rs),
  by simp (disch := decide) only [rV, rM, sw_ne]; exact swcong (by simpa (disch := decide) [tla_o, tld_o, sw_ne] using h.rp),
  by simp (disch := decide) only [rV, rM, sw_ne]; exact swcong (by simpa (disch := decide) [tla_o, tld_o, sw_ne] using h.rt),
  by simp (disch := decide) only [rV, rM, sw_ne]; exact swcong (by simpa (disch := decide) [tla_o, tld_o, sw_ne] using h.ry),
  by simp (disch := decide) only [rV, rM, sw_ne]; exact swcong (by simpa (disch := decide) [tla_o, tld_o, sw_ne] using h.ra)⟩
theorem rV_F (V M : Sto) (s p o y a : Int32) : RelF (rV V s p o y a) (rM V M s p o y a) := ⟨by simp (disch := decide) [rV, rM, bb, sw_at, sw_ne, tla_0, tld_0, tla_o, tld_o], by simp (disch := decide) [rV, rM, bb, sw_at, sw_ne, tla_0, tld_0, tla_o, tld_o], by simp (disch := decide) [rV, rM, bb, sw_at, sw_ne, tla_0, tld_0, tla_o, tld_o], by simp (disch := decide) [rV, rM, bb, sw_at, sw_ne, tla_0, tld_0, tla_o, tld_o], by simp (disch := decide) [rV, rM, bb, sw_at, sw_ne, tla_0, tld_0, tla_o, tld_o]⟩
theorem relC_eq {V : Sto} (h : WF V) (hn : (V 4 0).toNatClampNeg < 600) (s p o y a : Int32) : f_Re_add (tla V) s p o y a = some (V 4 0, rV V s p o y a) := by
  have hb : ib (V 4 0) 600 = true := ib_cnt h.r0 hn (by decide)
  have e4 : tla V 4 = V 4 := tla_o V (by decide)
  unfold f_Re_add rV
  simp (disch := decide) only [e4, hb, ck_mk, nm_mk, sw_ne, cl_mk, inc_cnt h.r0]
def goodR (V : Sto) (p1 p2 p3 p4 : Int32) : Bool := isPl V p1 p2 && (ib p3 6 && (ib p4 ((V 3 0).toNatClampNeg) && decide (V 21 (p4.toNatClampNeg) = V 15 (p1.toNatClampNeg))))
theorem ib6 {p : Int32} : (¬ p < 0 ∧ p ≤ 5) ↔ ib p 6 = true := by
  have e0 : (0 : Int32).toInt = 0 := by decide
  have e2 : (5 : Int32).toInt = 5 := by decide
  rw [ib_iff, Int32.lt_iff_toInt_lt, Int32.le_iff_toInt_le, e0, e2]
  omega
theorem rel_C {V : Sto} (h : WF V) (p1 p2 p3 p4 p5 : Int32) : f_Ly_relocation V p1 p2 p3 p4 p5 = if goodR V p1 p2 p3 p4 = true then (if V 4 0 < 600 then some (.inl (V 4 0), rV V p1 p2 p3 p4 p5) else some (.inr 3, V)) else some (.inr 0, V) := by
  unfold f_Ly_relocation goodR
  rw [hasWord_eq h, cl_mk]
  by_cases g1 : isPl V p1 p2 = true
  · rw [if_pos g1, if_neg (by decide), g1, Bool.true_and]
    by_cases g2 : ib p3 6 = true
    · rw [if_neg (ib6.mpr g2).1, if_pos (ib6.mpr g2).2, syHas_eq h, cl_mk, g2, Bool.true_and]
      by_cases g3 : ib p4 ((V 3 0).toNatClampNeg) = true
      · rw [if_pos g3, if_neg (by decide), ib_mono g3 h.y1, ck_mk, ib_mono (isPl_s g1).1 h.s1, ck_mk, g3, Bool.true_and]
        by_cases g4 : V 21 (p4.toNatClampNeg) = V 15 (p1.toNatClampNeg)
        · rw [if_pos g4, if_pos (decide_eq_true g4)]
          by_cases g6 : V 4 0 < 600
          · rw [if_pos g6, if_pos g6, tla_eq, cl_mk, relC_eq h (lt_cnt (n := 600) h.r0 (by decide) g6), cl_mk]
          · rw [if_neg g6, if_neg g6]
        · rw [if_neg g4, if_neg (fun z => g4 (of_decide_eq_true z))]
      · rw [if_neg g3, if_pos rfl, Bool.eq_false_iff.mpr g3, Bool.false_and, if_neg (show ¬ false = true by decide)]
    · rw [Bool.eq_false_iff.mpr g2, Bool.false_and, if_neg (show ¬ false = true by decide)]
      by_cases g : p3 < 0
      · rw [if_pos g]
      · rw [if_neg g, if_neg (fun z => g2 (ib6.mp ⟨g, z⟩))]
  · rw [if_neg g1, if_pos rfl, Bool.eq_false_iff.mpr g1, Bool.false_and, if_neg (show ¬ false = true by decide)]
theorem rel_M {V M : Sto} (h : WF V) (hr : RelD V M) (p1 p2 p3 p4 p5 : Int32) : f_Mo_relocation M p1 p2 p3 p4 p5 = if goodR V p1 p2 p3 p4 = true then (if V 4 0 = 600 then some (0, sw M 0 0 2) else some (V 4 0, rM V M p1 p2 p3 p4 p5)) else some (0, sw M 0 0 1) := by
  unfold f_Mo_relocation goodR
  rw [isPlace_eq h hr, cl_mk]
  by_cases g1 : isPl V p1 p2 = true
  · rw [g1, Bool.true_and]
    have hs := (isPl_s g1).1
    simp only [if_true, jn_mk, i10, if_false, within_eq, cl_mk]
    by_cases g2 : ib p3 6 = true
    · rw [if_pos (ib6'.mpr g2), g2, Bool.true_and, if_neg (show ¬ (1 : Int32) = 0 by decide)]
      have hm := moHas_eq M (hr.y0.trans h.y0) (Nat.le_trans h.y1 (by decide)) p4
      rw [within_eq] at hm
      have hm' := (Prod.mk.injEq _ _ _ _).mp (Option.some.inj hm)
      rw [hm'.1]
      by_cases g3 : ib p4 ((V 3 0).toNatClampNeg) = true
      · rw [if_pos g3, if_neg (show ¬ (1 : Int32) = 0 by decide), g3, Bool.true_and, ib_mono g3 h.y1, ck_mk, ib_mono hs h.s1, ck_mk, hr.yu, hr.su]
        by_cases g4 : V 21 (p4.toNatClampNeg) = V 15 (p1.toNatClampNeg)
        · rw [if_pos g4, if_pos (decide_eq_true g4), hr.r0]
          by_cases g6 : V 4 0 = 600
          · rw [if_pos g6, if_pos g6]
            simp only [refuse_01, cl_mk, i10, if_false]
          · rw [if_neg g6, if_neg g6]
            have hn : (V 4 0).toNatClampNeg < 600 := by
              have h1 := h.r1
              have : (V 4 0).toNatClampNeg ≠ 600 := fun e => g6 (by
                have := h.r0
                rw [e] at this
                rw [this]
                rfl)
              omega
            have hb : ib (V 4 0) 600 = true := ib_cnt h.r0 hn (by decide)
            have e3 : tld (sw M 0 0 0) 0 20 = V 4 0 := by rw [tld_0, sw_at]; exact hr.r0
            unfold rM
            simp (disch := decide) only [refuse_00, cl_mk, i00, if_true, tld_eq, e3, hb, ck_mk, nm_mk, sw_ne, sw_at, inc_cnt h.r0, add_sub1]
        · rw [if_neg g4, if_neg (fun z => g4 (of_decide_eq_true z))]
          simp only [refuse_10, cl_mk, i10, i00, if_false, if_true]
      · rw [if_neg g3, if_pos rfl, Bool.eq_false_iff.mpr g3, Bool.false_and, if_neg (show ¬ false = true by decide)]
        simp only [refuse_10, cl_mk, i10, i00, if_false, if_true]
    · rw [if_neg (fun z => g2 (ib6'.mp z)), Bool.eq_false_iff.mpr g2, Bool.false_and, if_pos rfl, if_neg (show ¬ false = true by decide)]
      simp only [refuse_10, cl_mk, i10, i00, if_false, if_true]
  · rw [if_neg g1, Bool.eq_false_iff.mpr g1, Bool.false_and, if_neg (show ¬ false = true by decide)]
    simp only [jn_mk, i00, if_true, refuse_10, cl_mk, i10, if_false]
theorem op_relocation {I : Sto → Sto → Prop} {V M : Sto} (h : WF V) (hr : RelD V M) (hthr : ∀ k, I V (sw M 0 0 k)) (hT : TI I) (p1 p2 p3 p4 p5 : Int32) : StI I cs_Lw_relocation (f_Ly_relocation V p1 p2 p3 p4 p5) (f_Mo_relocation M p1 p2 p3 p4 p5) V 0 := by
  rw [rel_C h, rel_M h hr]
  by_cases g : goodR V p1 p2 p3 p4 = true
  · rw [if_pos g, if_pos g]
    unfold goodR at g
    simp only [Bool.and_eq_true, decide_eq_true_eq] at g
    obtain ⟨g1, g2, g3, g4⟩ := g
    obtain ⟨k1, k2, k3, k4⟩ := isPl_s g1
    by_cases g6 : V 4 0 < 600
    · have hn := lt_cnt (n := 600) h.r0 (by decide) g6
      have hne : ¬ V 4 0 = 600 := fun e => by
        rw [e] at hn
        exact absurd hn (by decide)
      rw [if_pos g6, if_neg hne]
      refine ⟨0, V 4 0, _, V 4 0, _, Or.inl ⟨rfl, rfl⟩, rfl, ?_, fun _ => rfl, hT _ _ ⟨rV_WF p1 p2 p3 p4 p5 h hn k1 k2 k3 k4 g2 g3 g4, rV_Rel p1 p2 p3 p4 p5 hr, rV_F V M _ _ _ _ _, ?_⟩, ?_⟩
      · simp (disch := decide) [rM, sw_at, sw_ne, tld_0]
      · simp (disch := decide) [rV, sw_at, sw_ne, tla_0]
      · rw [Nat.zero_add, phi_eq (show rV V p1 p2 p3 p4 p5 1000 = V 1000 from rV_o (by decide) (by decide) (by decide) (by decide) (by decide) (by decide) (by decide))]
        exact Nat.le_refl _
    · have e : V 4 0 = 600 := by
        have h1 := h.r1
        have : ¬ (V 4 0).toNatClampNeg < 600 := fun z => g6 (cnt_lt (n := 600) h.r0 (by decide) z)
        have e : (V 4 0).toNatClampNeg = 600 := by omega
        have := h.r0
        rw [e] at this
        rw [this]
        rfl
      rw [if_neg g6, if_pos e]
      exact st_thr rfl (List.mem_of_getElem? (i := 1) rfl) (by decide) rfl (hthr 2)
  · rw [if_neg g, if_neg g]
    exact st_thr rfl (List.mem_of_getElem? (i := 0) rfl) (by decide) rfl (hthr 1)
