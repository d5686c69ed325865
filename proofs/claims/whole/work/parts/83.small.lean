/-! entry, keep, fold, clear, word. -/
theorem nar0 : vp_nar .boolean 0 = 0 := by decide
theorem nar1 : vp_nar .boolean 1 = 1 := by decide
theorem nar_bb {p : Int32} (h : bb p = true) : vp_nar .boolean p = p := by
  rcases bb_of h with rfl | rfl
  · exact nar0
  · exact nar1
def eV (V : Sto) (p : Int32) : Sto := sw (tla V) 0 11 p
def eM (M : Sto) (p : Int32) : Sto := sw (tld (sw M 0 0 0)) 0 26 p
theorem eV_Rel {V M : Sto} (p : Int32) (h : RelD V M) : RelD (eV V p) (eM M p) := ⟨by simpa (disch := decide) [eV, eM, ny, ct, sw_at, sw_ne, tla_0, tld_0, tla_o, tld_o] using h.u0,
  by simpa (disch := decide) [eV, eM, ny, ct, sw_at, sw_ne, tla_0, tld_0, tla_o, tld_o] using h.s0,
  by simpa (disch := decide) [eV, eM, ny, ct, sw_at, sw_ne, tla_0, tld_0, tla_o, tld_o] using h.b0,
  by simpa (disch := decide) [eV, eM, ny, ct, sw_at, sw_ne, tla_0, tld_0, tla_o, tld_o] using h.t0,
  by simpa (disch := decide) [eV, eM, ny, ct, sw_at, sw_ne, tla_0, tld_0, tla_o, tld_o] using h.y0,
  by simpa (disch := decide) [eV, eM, ny, ct, sw_at, sw_ne, tla_0, tld_0, tla_o, tld_o] using h.r0,
  by simp [eV, eM, sw_at],
  by simpa (disch := decide) [eV, eM, ny, ct, sw_at, sw_ne, tla_0, tld_0, tla_o, tld_o] using h.fo,
  by simpa (disch := decide) [eV, eM, ny, ct, sw_at, sw_ne, tla_0, tld_0, tla_o, tld_o] using h.gr,
  by simpa (disch := decide) [eV, eM, ny, ct, sw_at, sw_ne, tla_0, tld_0, tla_o, tld_o] using h.arc,
  by simpa (disch := decide) [eV, eM, ny, ct, sw_at, sw_ne, tla_0, tld_0, tla_o, tld_o] using h.su,
  by simpa (disch := decide) [eV, eM, ny, ct, sw_at, sw_ne, tla_0, tld_0, tla_o, tld_o] using h.sk,
  by simpa (disch := decide) [eV, eM, ny, ct, sw_at, sw_ne, tla_0, tld_0, tla_o, tld_o] using h.sz,
  by simpa (disch := decide) [eV, eM, ny, ct, sw_at, sw_ne, tla_0, tld_0, tla_o, tld_o] using h.al,
  by simpa (disch := decide) [eV, eM, ny, ct, sw_at, sw_ne, tla_0, tld_0, tla_o, tld_o] using h.fw,
  by simpa (disch := decide) [eV, eM, ny, ct, sw_at, sw_ne, tla_0, tld_0, tla_o, tld_o] using h.kp,
  by simpa (disch := decide) [eV, eM, ny, ct, sw_at, sw_ne, tla_0, tld_0, tla_o, tld_o] using h.wd,
  by simpa (disch := decide) [eV, eM, ny, ct, sw_at, sw_ne, tla_0, tld_0, tla_o, tld_o] using h.yu,
  by simpa (disch := decide) [eV, eM, ny, ct, sw_at, sw_ne, tla_0, tld_0, tla_o, tld_o] using h.yf,
  by simpa (disch := decide) [eV, eM, ny, ct, sw_at, sw_ne, tla_0, tld_0, tla_o, tld_o] using h.ys,
  by simpa (disch := decide) [eV, eM, ny, ct, sw_at, sw_ne, tla_0, tld_0, tla_o, tld_o] using h.yv,
  by simpa (disch := decide) [eV, eM, ny, ct, sw_at, sw_ne, tla_0, tld_0, tla_o, tld_o] using h.yn,
  by simpa (disch := decide) [eV, eM, ny, ct, sw_at, sw_ne, tla_0, tld_0, tla_o, tld_o] using h.yb,
  by simpa (disch := decide) [eV, eM, ny, ct, sw_at, sw_ne, tla_0, tld_0, tla_o, tld_o] using h.rs,
  by simpa (disch := decide) [eV, eM, ny, ct, sw_at, sw_ne, tla_0, tld_0, tla_o, tld_o] using h.rp,
  by simpa (disch := decide) [eV, eM, ny, ct, sw_at, sw_ne, tla_0, tld_0, tla_o, tld_o] using h.rt,
  by simpa (disch := decide) [eV, eM, ny, ct, sw_at, sw_ne, tla_0, tld_0, tla_o, tld_o] using h.ry,
  by simpa (disch := decide) [eV, eM, ny, ct, sw_at, sw_ne, tla_0, tld_0, tla_o, tld_o] using h.ra⟩
theorem eV_F (V M : Sto) (p : Int32) : RelF (eV V p) (eM M p) := ⟨by simp (disch := decide) [eV, eM, bb, sw_at, sw_ne, tla_0, tld_0, tla_o, tld_o], by simp (disch := decide) [eV, eM, bb, sw_at, sw_ne, tla_0, tld_0, tla_o, tld_o], by simp (disch := decide) [eV, eM, bb, sw_at, sw_ne, tla_0, tld_0, tla_o, tld_o], by simp (disch := decide) [eV, eM, bb, sw_at, sw_ne, tla_0, tld_0, tla_o, tld_o], by simp (disch := decide) [eV, eM, bb, sw_at, sw_ne, tla_0, tld_0, tla_o, tld_o]⟩
theorem eV_WF {V : Sto} (p : Int32) (h : WF V) (hp : p = -1 ∨ ib p 200 = true) : WF (eV V p) := ⟨by simpa (disch := decide) [eV, nu, ns, ny, nr, ct, sw_at, sw_ne, tla_0, tla_o] using h.u0,
  by simpa (disch := decide) [eV, nu, ns, ny, nr, ct, sw_at, sw_ne, tla_0, tla_o] using h.u1,
  by simpa (disch := decide) [eV, nu, ns, ny, nr, ct, sw_at, sw_ne, tla_0, tla_o] using h.s0,
  by simpa (disch := decide) [eV, nu, ns, ny, nr, ct, sw_at, sw_ne, tla_0, tla_o] using h.s1,
  by simpa (disch := decide) [eV, nu, ns, ny, nr, ct, sw_at, sw_ne, tla_0, tla_o] using h.y0,
  by simpa (disch := decide) [eV, nu, ns, ny, nr, ct, sw_at, sw_ne, tla_0, tla_o] using h.y1,
  by simpa (disch := decide) [eV, nu, ns, ny, nr, ct, sw_at, sw_ne, tla_0, tla_o] using h.r0,
  by simpa (disch := decide) [eV, nu, ns, ny, nr, ct, sw_at, sw_ne, tla_0, tla_o] using h.r1,
  by simpa (disch := decide) [eV, nu, ns, ny, nr, ct, sw_at, sw_ne, tla_0, tla_o] using h.arc,
  by simpa (disch := decide) [eV, nu, ns, ny, nr, ct, sw_at, sw_ne, tla_0, tla_o] using h.su,
  by simpa (disch := decide) [eV, nu, ns, ny, nr, ct, sw_at, sw_ne, tla_0, tla_o] using h.sk,
  by simpa (disch := decide) [eV, nu, ns, ny, nr, ct, sw_at, sw_ne, tla_0, tla_o] using h.sz,
  by simpa (disch := decide) [eV, nu, ns, ny, nr, ct, sw_at, sw_ne, tla_0, tla_o] using h.al,
  by simpa (disch := decide) [eV, nu, ns, ny, nr, ct, sw_at, sw_ne, tla_0, tla_o] using h.kp,
  by simpa (disch := decide) [eV, nu, ns, ny, nr, ct, sw_at, sw_ne, tla_0, tla_o] using h.l0,
  by simpa (disch := decide) [eV, nu, ns, ny, nr, ct, sw_at, sw_ne, tla_0, tla_o] using h.l1,
  by simpa (disch := decide) [eV, nu, ns, ny, nr, ct, sw_at, sw_ne, tla_0, tla_o] using h.b0,
  by simpa (disch := decide) [eV, nu, ns, ny, nr, ct, sw_at, sw_ne, tla_0, tla_o] using h.b1,
  by simpa (disch := decide) [eV, nu, ns, ny, nr, ct, sw_at, sw_ne, tla_0, tla_o] using h.t0,
  by simpa (disch := decide) [eV, nu, ns, ny, nr, ct, sw_at, sw_ne, tla_0, tla_o] using h.t1,
  by simpa (disch := decide) [eV, nu, ns, ny, nr, ct, sw_at, sw_ne, tla_0, tla_o] using h.fw,
  by simpa (disch := decide) [eV, nu, ns, ny, nr, ct, sw_at, sw_ne, tla_0, tla_o] using h.fd,
  by simpa (disch := decide) [eV, nu, ns, ny, nr, ct, sw_at, sw_ne, tla_0, tla_o] using h.yu,
  by simpa (disch := decide) [eV, nu, ns, ny, nr, ct, sw_at, sw_ne, tla_0, tla_o] using h.yn,
  by simpa (disch := decide) [eV, nu, ns, ny, nr, ct, sw_at, sw_ne, tla_0, tla_o] using h.yb,
  by simpa (disch := decide) [eV, nu, ns, ny, nr, ct, sw_at, sw_ne, tla_0, tla_o] using h.yf,
  by simpa (disch := decide) [eV, nu, ns, ny, nr, ct, sw_at, sw_ne, tla_0, tla_o] using h.uq,
  by simpa (disch := decide) [eV, nu, ns, ny, nr, ct, sw_at, sw_ne, tla_0, tla_o] using h.rs,
  by simpa (disch := decide) [eV, nu, ns, ny, nr, ct, sw_at, sw_ne, tla_0, tla_o] using h.rp,
  by simpa (disch := decide) [eV, nu, ns, ny, nr, ct, sw_at, sw_ne, tla_0, tla_o] using h.rt,
  by simpa (disch := decide) [eV, nu, ns, ny, nr, ct, sw_at, sw_ne, tla_0, tla_o] using h.ry,
  by simpa [eV, sw_at] using hp,
  by simpa (disch := decide) [eV, nu, ns, ny, nr, ct, sw_at, sw_ne, tla_0, tla_o] using h.fo,
  by simpa (disch := decide) [eV, nu, ns, ny, nr, ct, sw_at, sw_ne, tla_0, tla_o] using h.gr⟩
def kV (V : Sto) (s : Nat) (p : Int32) : Sto := sw (tla V) 20 s p
def kM (M : Sto) (s : Nat) (p : Int32) : Sto := sw (tld (sw M 0 0 0)) 7 s p
theorem kV_Rel {V M : Sto} (s : Nat) (p : Int32) (h : RelD V M) : RelD (kV V s p) (kM M s p) := ⟨by simpa (disch := decide) [kV, kM, ny, ct, sw_at, sw_ne, tla_0, tld_0, tla_o, tld_o] using h.u0,
  by simpa (disch := decide) [kV, kM, ny, ct, sw_at, sw_ne, tla_0, tld_0, tla_o, tld_o] using h.s0,
  by simpa (disch := decide) [kV, kM, ny, ct, sw_at, sw_ne, tla_0, tld_0, tla_o, tld_o] using h.b0,
  by simpa (disch := decide) [kV, kM, ny, ct, sw_at, sw_ne, tla_0, tld_0, tla_o, tld_o] using h.t0,
  by simpa (disch := decide) [kV, kM, ny, ct, sw_at, sw_ne, tla_0, tld_0, tla_o, tld_o] using h.y0,
  by simpa (disch := decide) [kV, kM, ny, ct, sw_at, sw_ne, tla_0, tld_0, tla_o, tld_o] using h.r0,
  by simpa (disch := decide) [kV, kM, ny, ct, sw_at, sw_ne, tla_0, tld_0, tla_o, tld_o] using h.en,
  by simpa (disch := decide) [kV, kM, ny, ct, sw_at, sw_ne, tla_0, tld_0, tla_o, tld_o] using h.fo,
  by simpa (disch := decide) [kV, kM, ny, ct, sw_at, sw_ne, tla_0, tld_0, tla_o, tld_o] using h.gr,
  by simpa (disch := decide) [kV, kM, ny, ct, sw_at, sw_ne, tla_0, tld_0, tla_o, tld_o] using h.arc,
  by simpa (disch := decide) [kV, kM, ny, ct, sw_at, sw_ne, tla_0, tld_0, tla_o, tld_o] using h.su,
  by simpa (disch := decide) [kV, kM, ny, ct, sw_at, sw_ne, tla_0, tld_0, tla_o, tld_o] using h.sk,
  by simpa (disch := decide) [kV, kM, ny, ct, sw_at, sw_ne, tla_0, tld_0, tla_o, tld_o] using h.sz,
  by simpa (disch := decide) [kV, kM, ny, ct, sw_at, sw_ne, tla_0, tld_0, tla_o, tld_o] using h.al,
  by simpa (disch := decide) [kV, kM, ny, ct, sw_at, sw_ne, tla_0, tld_0, tla_o, tld_o] using h.fw,
  swcong (by simpa (disch := decide) [tla_o, tld_o, sw_ne] using h.kp),
  by simpa (disch := decide) [kV, kM, ny, ct, sw_at, sw_ne, tla_0, tld_0, tla_o, tld_o] using h.wd,
  by simpa (disch := decide) [kV, kM, ny, ct, sw_at, sw_ne, tla_0, tld_0, tla_o, tld_o] using h.yu,
  by simpa (disch := decide) [kV, kM, ny, ct, sw_at, sw_ne, tla_0, tld_0, tla_o, tld_o] using h.yf,
  by simpa (disch := decide) [kV, kM, ny, ct, sw_at, sw_ne, tla_0, tld_0, tla_o, tld_o] using h.ys,
  by simpa (disch := decide) [kV, kM, ny, ct, sw_at, sw_ne, tla_0, tld_0, tla_o, tld_o] using h.yv,
  by simpa (disch := decide) [kV, kM, ny, ct, sw_at, sw_ne, tla_0, tld_0, tla_o, tld_o] using h.yn,
  by simpa (disch := decide) [kV, kM, ny, ct, sw_at, sw_ne, tla_0, tld_0, tla_o, tld_o] using h.yb,
  by simpa (disch := decide) [kV, kM, ny, ct, sw_at, sw_ne, tla_0, tld_0, tla_o, tld_o] using h.rs,
  by simpa (disch := decide) [kV, kM, ny, ct, sw_at, sw_ne, tla_0, tld_0, tla_o, tld_o] using h.rp,
  by simpa (disch := decide) [kV, kM, ny, ct, sw_at, sw_ne, tla_0, tld_0, tla_o, tld_o] using h.rt,
  by simpa (disch := decide) [kV, kM, ny, ct, sw_at, sw_ne, tla_0, tld_0, tla_o, tld_o] using h.ry,
  by simpa (disch := decide) [kV, kM, ny, ct, sw_at, sw_ne, tla_0, tld_0, tla_o, tld_o] using h.ra⟩
theorem kV_F (V M : Sto) (s : Nat) (p : Int32) : RelF (kV V s p) (kM M s p) := ⟨by simp (disch := decide) [kV, kM, bb, sw_at, sw_ne, tla_0, tld_0, tla_o, tld_o], by simp (disch := decide) [kV, kM, bb, sw_at, sw_ne, tla_0, tld_0, tla_o, tld_o], by simp (disch := decide) [kV, kM, bb, sw_at, sw_ne, tla_0, tld_0, tla_o, tld_o], by simp (disch := decide) [kV, kM, bb, sw_at, sw_ne, tla_0, tld_0, tla_o, tld_o], by simp (disch := decide) [kV, kM, bb, sw_at, sw_ne, tla_0, tld_0, tla_o, tld_o]⟩
theorem kV_WF {V : Sto} (s : Nat) (p : Int32) (h : WF V) (hp : bb p = true) : WF (kV V s p) := ⟨by simpa (disch := decide) [kV, nu, ns, ny, nr, ct, sw_at, sw_ne, tla_0, tla_o] using h.u0,
  by simpa (disch := decide) [kV, nu, ns, ny, nr, ct, sw_at, sw_ne, tla_0, tla_o] using h.u1,
  by simpa (disch := decide) [kV, nu, ns, ny, nr, ct, sw_at, sw_ne, tla_0, tla_o] using h.s0,
  by simpa (disch := decide) [kV, nu, ns, ny, nr, ct, sw_at, sw_ne, tla_0, tla_o] using h.s1,
  by simpa (disch := decide) [kV, nu, ns, ny, nr, ct, sw_at, sw_ne, tla_0, tla_o] using h.y0,
  by simpa (disch := decide) [kV, nu, ns, ny, nr, ct, sw_at, sw_ne, tla_0, tla_o] using h.y1,
  by simpa (disch := decide) [kV, nu, ns, ny, nr, ct, sw_at, sw_ne, tla_0, tla_o] using h.r0,
  by simpa (disch := decide) [kV, nu, ns, ny, nr, ct, sw_at, sw_ne, tla_0, tla_o] using h.r1,
  by simpa (disch := decide) [kV, nu, ns, ny, nr, ct, sw_at, sw_ne, tla_0, tla_o] using h.arc,
  by simpa (disch := decide) [kV, nu, ns, ny, nr, ct, sw_at, sw_ne, tla_0, tla_o] using h.su,
  by simpa (disch := decide) [kV, nu, ns, ny, nr, ct, sw_at, sw_ne, tla_0, tla_o] using h.sk,
  by simpa (disch := decide) [kV, nu, ns, ny, nr, ct, sw_at, sw_ne, tla_0, tla_o] using h.sz,
  by simpa (disch := decide) [kV, nu, ns, ny, nr, ct, sw_at, sw_ne, tla_0, tla_o] using h.al,
  by
    intro t ht
    have ht' : t < (V 2 0).toNatClampNeg := by simpa (disch := decide) [kV, ns, ct, sw_ne, tla_o] using ht
    have h1 := h.kp t ht'
    simp (disch := decide) only [kV, sw_at, tla_o]
    by_cases e : t = s
    · rw [if_pos e]; exact hp
    · rw [if_neg e]; exact h1,
  by simpa (disch := decide) [kV, nu, ns, ny, nr, ct, sw_at, sw_ne, tla_0, tla_o] using h.l0,
  by simpa (disch := decide) [kV, nu, ns, ny, nr, ct, sw_at, sw_ne, tla_0, tla_o] using h.l1,
  by simpa (disch := decide) [kV, nu, ns, ny, nr, ct, sw_at, sw_ne, tla_0, tla_o] using h.b0,
  by simpa (disch := decide) [kV, nu, ns, ny, nr, ct, sw_at, sw_ne, tla_0, tla_o] using h.b1,
  by simpa (disch := decide) [kV, nu, ns, ny, nr, ct, sw_at, sw_ne, tla_0, tla_o] using h.t0,
  by simpa (disch := decide) [kV, nu, ns, ny, nr, ct, sw_at, sw_ne, tla_0, tla_o] using h.t1,
  by simpa (disch := decide) [kV, nu, ns, ny, nr, ct, sw_at, sw_ne, tla_0, tla_o] using h.fw,
  by simpa (disch := decide) [kV, nu, ns, ny, nr, ct, sw_at, sw_ne, tla_0, tla_o] using h.fd,
  by simpa (disch := decide) [kV, nu, ns, ny, nr, ct, sw_at, sw_ne, tla_0, tla_o] using h.yu,
  by simpa (disch := decide) [kV, nu, ns, ny, nr, ct, sw_at, sw_ne, tla_0, tla_o] using h.yn,
  by simpa (disch := decide) [kV, nu, ns, ny, nr, ct, sw_at, sw_ne, tla_0, tla_o] using h.yb,
  by simpa (disch := decide) [kV, nu, ns, ny, nr, ct, sw_at, sw_ne, tla_0, tla_o] using h.yf,
  by simpa (disch := decide) [kV, nu, ns, ny, nr, ct, sw_at, sw_ne, tla_0, tla_o] using h.uq,
  by simpa (disch := decide) [kV, nu, ns, ny, nr, ct, sw_at, sw_ne, tla_0, tla_o] using h.rs,
  by simpa (disch := decide) [kV, nu, ns, ny, nr, ct, sw_at, sw_ne, tla_0, tla_o] using h.rp,
  by simpa (disch := decide) [kV, nu, ns, ny, nr, ct, sw_at, sw_ne, tla_0, tla_o] using h.rt,
  by simpa (disch := decide) [kV, nu, ns, ny, nr, ct, sw_at, sw_ne, tla_0, tla_o] using h.ry,
  by simpa (disch := decide) [kV, nu, ns, ny, nr, ct, sw_at, sw_ne, tla_0, tla_o] using h.en,
  by simpa (disch := decide) [kV, nu, ns, ny, nr, ct, sw_at, sw_ne, tla_0, tla_o] using h.fo,
  by simpa (disch := decide) [kV, nu, ns, ny, nr, ct, sw_at, sw_ne, tla_0, tla_o] using h.gr⟩
def fV (V : Sto) (p q : Int32) : Sto := sw (sw (tla V) 0 12 p) 0 13 q
def fM (M : Sto) (p q : Int32) : Sto := sw (sw (tld (sw M 0 0 0)) 0 27 p) 0 28 q
theorem fV_Rel {V M : Sto} (p q : Int32) (h : RelD V M) : RelD (fV V p q) (fM M p q) := ⟨by simpa (disch := decide) [fV, fM, ny, ct, sw_at, sw_ne, tla_0, tld_0, tla_o, tld_o] using h.u0,
  by simpa (disch := decide) [fV, fM, ny, ct, sw_at, sw_ne, tla_0, tld_0, tla_o, tld_o] using h.s0,
  by simpa (disch := decide) [fV, fM, ny, ct, sw_at, sw_ne, tla_0, tld_0, tla_o, tld_o] using h.b0,
  by simpa (disch := decide) [fV, fM, ny, ct, sw_at, sw_ne, tla_0, tld_0, tla_o, tld_o] using h.t0,
  by simpa (disch := decide) [fV, fM, ny, ct, sw_at, sw_ne, tla_0, tld_0, tla_o, tld_o] using h.y0,
  by simpa (disch := decide) [fV, fM, ny, ct, sw_at, sw_ne, tla_0, tld_0, tla_o, tld_o] using h.r0,
  by simpa (disch := decide) [fV, fM, ny, ct, sw_at, sw_ne, tla_0, tld_0, tla_o, tld_o] using h.en,
  by simp [fV, fM, sw_at],
  by simp [fV, fM, sw_at],
  by simpa (disch := decide) [fV, fM, ny, ct, sw_at, sw_ne, tla_0, tld_0, tla_o, tld_o] using h.arc,
  by simpa (disch := decide) [fV, fM, ny, ct, sw_at, sw_ne, tla_0, tld_0, tla_o, tld_o] using h.su,
  by simpa (disch := decide) [fV, fM, ny, ct, sw_at, sw_ne, tla_0, tld_0, tla_o, tld_o] using h.sk,
  by simpa (disch := decide) [fV, fM, ny, ct, sw_at, sw_ne, tla_0, tld_0, tla_o, tld_o] using h.sz,
  by simpa (disch := decide) [fV, fM, ny, ct, sw_at, sw_ne, tla_0, tld_0, tla_o, tld_o] using h.al,
  by simpa (disch := decide) [fV, fM, ny, ct, sw_at, sw_ne, tla_0, tld_0, tla_o, tld_o] using h.fw,
  by simpa (disch := decide) [fV, fM, ny, ct, sw_at, sw_ne, tla_0, tld_0, tla_o, tld_o] using h.kp,
  by simpa (disch := decide) [fV, fM, ny, ct, sw_at, sw_ne, tla_0, tld_0, tla_o, tld_o] using h.wd,
  by simpa (disch := decide) [fV, fM, ny, ct, sw_at, sw_ne, tla_0, tld_0, tla_o, tld_o] using h.yu,
  by simpa (disch := decide) [fV, fM, ny, ct, sw_at, sw_ne, tla_0, tld_0, tla_o, tld_o] using h.yf,
  by simpa (disch := decide) [fV, fM, ny, ct, sw_at, sw_ne, tla_0, tld_0, tla_o, tld_o] using h.ys,
  by simpa (disch := decide) [fV, fM, ny, ct, sw_at, sw_ne, tla_0, tld_0, tla_o, tld_o] using h.yv,
  by simpa (disch := decide) [fV, fM, ny, ct, sw_at, sw_ne, tla_0, tld_0, tla_o, tld_o] using h.yn,
  by simpa (disch := decide) [fV, fM, ny, ct, sw_at, sw_ne, tla_0, tld_0, tla_o, tld_o] using h.yb,
  by simpa (disch := decide) [fV, fM, ny, ct, sw_at, sw_ne, tla_0, tld_0, tla_o, tld_o] using h.rs,
  by simpa (disch := decide) [fV, fM, ny, ct, sw_at, sw_ne, tla_0, tld_0, tla_o, tld_o] using h.rp,
  by simpa (disch := decide) [fV, fM, ny, ct, sw_at, sw_ne, tla_0, tld_0, tla_o, tld_o] using h.rt,
  by simpa (disch := decide) [fV, fM, ny, ct, sw_at, sw_ne, tla_0, tld_0, tla_o, tld_o] using h.ry,
  by simpa (disch := decide) [fV, fM, ny, ct, sw_at, sw_ne, tla_0, tld_0, tla_o, tld_o] using h.ra⟩
theorem fV_F (V M : Sto) (p q : Int32) : RelF (fV V p q) (fM M p q) := ⟨by simp (disch := decide) [fV, fM, bb, sw_at, sw_ne, tla_0, tld_0, tla_o, tld_o], by simp (disch := decide) [fV, fM, bb, sw_at, sw_ne, tla_0, tld_0, tla_o, tld_o], by simp (disch := decide) [fV, fM, bb, sw_at, sw_ne, tla_0, tld_0, tla_o, tld_o], by simp (disch := decide) [fV, fM, bb, sw_at, sw_ne, tla_0, tld_0, tla_o, tld_o], by simp (disch := decide) [fV, fM, bb, sw_at, sw_ne, tla_0, tld_0, tla_o, tld_o]⟩
theorem fV_WF {V : Sto} (p q : Int32) (h : WF V) (hp : bb p = true) (hq : bb q = true) : WF (fV V p q) := ⟨by simpa (disch := decide) [fV, nu, ns, ny, nr, ct, sw_at, sw_ne, tla_0, tla_o] using h.u0,
  by simpa (disch := decide) [fV, nu, ns, ny, nr, ct, sw_at, sw_ne, tla_0, tla_o] using h.u1,
  by simpa (disch := decide) [fV, nu, ns, ny, nr, ct, sw_at, sw_ne, tla_0, tla_o] using h.s0,
  by simpa (disch := decide) [fV, nu, ns, ny, nr, ct, sw_at, sw_ne, tla_0, tla_o] using h.s1,
  by simpa (disch := decide) [fV, nu, ns, ny, nr, ct, sw_at, sw_ne, tla_0, tla_o] using h.y0,
  by simpa (disch := decide) [fV, nu, ns, ny, nr, ct, sw_at, sw_ne, tla_0, tla_o] using h.y1,
  by simpa (disch := decide) [fV, nu, ns, ny, nr, ct, sw_at, sw_ne, tla_0, tla_o] using h.r0,
  by simpa (disch := decide) [fV, nu, ns, ny, nr, ct, sw_at, sw_ne, tla_0, tla_o] using h.r1,
  by simpa (disch := decide) [fV, nu, ns, ny, nr, ct, sw_at, sw_ne, tla_0, tla_o] using h.arc,
  by simpa (disch := decide) [fV, nu, ns, ny, nr, ct, sw_at, sw_ne, tla_0, tla_o] using h.su,
  by simpa (disch := decide) [fV, nu, ns, ny, nr, ct, sw_at, sw_ne, tla_0, tla_o] using h.sk,
  by simpa (disch := decide) [fV, nu, ns, ny, nr, ct, sw_at, sw_ne, tla_0, tla_o] using h.sz,
  by simpa (disch := decide) [fV, nu, ns, ny, nr, ct, sw_at, sw_ne, tla_0, tla_o] using h.al,
  by simpa (disch := decide) [fV, nu, ns, ny, nr, ct, sw_at, sw_ne, tla_0, tla_o] using h.kp,
  by simpa (disch := decide) [fV, nu, ns, ny, nr, ct, sw_at, sw_ne, tla_0, tla_o] using h.l0,
  by simpa (disch := decide) [fV, nu, ns, ny, nr, ct, sw_at, sw_ne, tla_0, tla_o] using h.l1,
  by simpa (disch := decide) [fV, nu, ns, ny, nr, ct, sw_at, sw_ne, tla_0, tla_o] using h.b0,
  by simpa (disch := decide) [fV, nu, ns, ny, nr, ct, sw_at, sw_ne, tla_0, tla_o] using h.b1,
  by simpa (disch := decide) [fV, nu, ns, ny, nr, ct, sw_at, sw_ne, tla_0, tla_o] using h.t0,
  by simpa (disch := decide) [fV, nu, ns, ny, nr, ct, sw_at, sw_ne, tla_0, tla_o] using h.t1,
  by simpa (disch := decide) [fV, nu, ns, ny, nr, ct, sw_at, sw_ne, tla_0, tla_o] using h.fw,
  by simpa (disch := decide) [fV, nu, ns, ny, nr, ct, sw_at, sw_ne, tla_0, tla_o] using h.fd,
  by simpa (disch := decide) [fV, nu, ns, ny, nr, ct, sw_at, sw_ne, tla_0, tla_o] using h.yu,
  by simpa (disch := decide) [fV, nu, ns, ny, nr, ct, sw_at, sw_ne, tla_0, tla_o] using h.yn,
  by simpa (disch := decide) [fV, nu, ns, ny, nr, ct, sw_at, sw_ne, tla_0, tla_o] using h.yb,
  by simpa (disch := decide) [fV, nu, ns, ny, nr, ct, sw_at, sw_ne, tla_0, tla_o] using h.yf,
  by simpa (disch := decide) [fV, nu, ns, ny, nr, ct, sw_at, sw_ne, tla_0, tla_o] using h.uq,
  by simpa (disch := decide) [fV, nu, ns, ny, nr, ct, sw_at, sw_ne, tla_0, tla_o] using h.rs,
  by simpa (disch := decide) [fV, nu, ns, ny, nr, ct, sw_at, sw_ne, tla_0, tla_o] using h.rp,
  by simpa (disch := decide) [fV, nu, ns, ny, nr, ct, sw_at, sw_ne, tla_0, tla_o] using h.rt,
  by simpa (disch := decide) [fV, nu, ns, ny, nr, ct, sw_at, sw_ne, tla_0, tla_o] using h.ry,
  by simpa (disch := decide) [fV, nu, ns, ny, nr, ct, sw_at, sw_ne, tla_0, tla_o] using h.en,
  by simpa [fV, sw_at] using hp,
  by simpa [fV, sw_at] using hq⟩
def cV (V : Sto) : Sto := sw (sw (sw (sw (sw (sw (sw (sw (sw (tla V) 1 0 0) 2 0 0) 2 1 0) 2 2 0) 3 0 0) 4 0 0) 0 11 (-1)) 0 12 0) 0 13 0
def cM (M : Sto) : Sto := sw (sw (sw (sw (sw (sw (sw (sw (sw (tld (sw M 0 0 0)) 0 1 0) 0 3 0) 0 10 0) 0 11 0) 0 13 0) 0 20 0) 0 26 (-1)) 0 27 0) 0 28 0
theorem ct0 : Int32.toNatClampNeg 0 = 0 := by decide
theorem cV_Rel {V M : Sto} (h : RelD V M) : RelD (cV V) (cM M) := ⟨by simp (disch := decide) [cV, cM, sw_at, sw_ne],
  by simp (disch := decide) [cV, cM, sw_at, sw_ne],
  by simp (disch := decide) [cV, cM, sw_at, sw_ne],
  by simp (disch := decide) [cV, cM, sw_at, sw_ne],
  by simp (disch := decide) [cV, cM, sw_at, sw_ne],
  by simp (disch := decide) [cV, cM, sw_at, sw_ne],
  by simp (disch := decide) [cV, cM, sw_at, sw_ne],
  by simp (disch := decide) [cV, cM, sw_at, sw_ne],
  by simp (disch := decide) [cV, cM, sw_at, sw_ne],
  by simpa (disch := decide) [cV, cM, ny, ct, sw_at, sw_ne, tla_0, tld_0, tla_o, tld_o] using h.arc,
  by simpa (disch := decide) [cV, cM, ny, ct, sw_at, sw_ne, tla_0, tld_0, tla_o, tld_o] using h.su,
  by simpa (disch := decide) [cV, cM, ny, ct, sw_at, sw_ne, tla_0, tld_0, tla_o, tld_o] using h.sk,
  by simpa (disch := decide) [cV, cM, ny, ct, sw_at, sw_ne, tla_0, tld_0, tla_o, tld_o] using h.sz,
  by simpa (disch := decide) [cV, cM, ny, ct, sw_at, sw_ne, tla_0, tld_0, tla_o, tld_o] using h.al,
  by simpa (disch := decide) [cV, cM, ny, ct, sw_at, sw_ne, tla_0, tld_0, tla_o, tld_o] using h.fw,
  by simpa (disch := decide) [cV, cM, ny, ct, sw_at, sw_ne, tla_0, tld_0, tla_o, tld_o] using h.kp,
  fun k hk => absurd hk (by simp (disch := decide) [cV, ct, sw_at, sw_ne, ct0]),
  by simpa (disch := decide) [cV, cM, ny, ct, sw_at, sw_ne, tla_0, tld_0, tla_o, tld_o] using h.yu,
  fun k hk => absurd hk (by simp (disch := decide) [cV, ny, ct, sw_at, sw_ne, ct0]),
  by simpa (disch := decide) [cV, cM, ny, ct, sw_at, sw_ne, tla_0, tld_0, tla_o, tld_o] using h.ys,
  by simpa (disch := decide) [cV, cM, ny, ct, sw_at, sw_ne, tla_0, tld_0, tla_o, tld_o] using h.yv,
  by simpa (disch := decide) [cV, cM, ny, ct, sw_at, sw_ne, tla_0, tld_0, tla_o, tld_o] using h.yn,
  by simpa (disch := decide) [cV, cM, ny, ct, sw_at, sw_ne, tla_0, tld_0, tla_o, tld_o] using h.yb,
  by simpa (disch := decide) [cV, cM, ny, ct, sw_at, sw_ne, tla_0, tld_0, tla_o, tld_o] using h.rs,
  by simpa (disch := decide) [cV, cM, ny, ct, sw_at, sw_ne, tla_0, tld_0, tla_o, tld_o] using h.rp,
  by simpa (disch := decide) [cV, cM, ny, ct, sw_at, sw_ne, tla_0, tld_0, tla_o, tld_o] using h.rt,
  by simpa (disch := decide) [cV, cM, ny, ct, sw_at, sw_ne, tla_0, tld_0, tla_o, tld_o] using h.ry,
  by simpa (disch := decide) [cV, cM, ny, ct, sw_at, sw_ne, tla_0, tld_0, tla_o, tld_o] using h.ra⟩
theorem cV_F (V M : Sto) : RelF (cV V) (cM M) := ⟨by simp (disch := decide) [cV, cM, bb, sw_at, sw_ne, tla_0, tld_0, tla_o, tld_o], by simp (disch := decide) [cV, cM, bb, sw_at, sw_ne, tla_0, tld_0, tla_o, tld_o], by simp (disch := decide) [cV, cM, bb, sw_at, sw_ne, tla_0, tld_0, tla_o, tld_o], by simp (disch := decide) [cV, cM, bb, sw_at, sw_ne, tla_0, tld_0, tla_o, tld_o], by simp (disch := decide) [cV, cM, bb, sw_at, sw_ne, tla_0, tld_0, tla_o, tld_o]⟩
theorem cV_WF {V : Sto} (h : WF V) : WF (cV V) := ⟨by simp (disch := decide) [cV, nu, ns, ny, nr, ct, sw_at, sw_ne, ct0]; rfl,
  by simp (disch := decide) [cV, nu, ns, ny, nr, ct, sw_at, sw_ne, ct0],
  by simp (disch := decide) [cV, nu, ns, ny, nr, ct, sw_at, sw_ne, ct0]; rfl,
  by simp (disch := decide) [cV, nu, ns, ny, nr, ct, sw_at, sw_ne, ct0],
  by simp (disch := decide) [cV, nu, ns, ny, nr, ct, sw_at, sw_ne, ct0]; rfl,
  by simp (disch := decide) [cV, nu, ns, ny, nr, ct, sw_at, sw_ne, ct0],
  by simp (disch := decide) [cV, nu, ns, ny, nr, ct, sw_at, sw_ne, ct0]; rfl,
  by simp (disch := decide) [cV, nu, ns, ny, nr, ct, sw_at, sw_ne, ct0],
  fun k hk => absurd hk (by simp (disch := decide) [cV, nu, ns, ny, nr, ct, sw_at, sw_ne, ct0]),
  fun k hk => absurd hk (by simp (disch := decide) [cV, nu, ns, ny, nr, ct, sw_at, sw_ne, ct0]),
  fun k hk => absurd hk (by simp (disch := decide) [cV, nu, ns, ny, nr, ct, sw_at, sw_ne, ct0]),
  fun k hk => absurd hk (by simp (disch := decide) [cV, nu, ns, ny, nr, ct, sw_at, sw_ne, ct0]),
  fun k hk => absurd hk (by simp (disch := decide) [cV, nu, ns, ny, nr, ct, sw_at, sw_ne, ct0]),
  fun k hk => absurd hk (by simp (disch := decide) [cV, nu, ns, ny, nr, ct, sw_at, sw_ne, ct0]),
  by simpa (disch := decide) [cV, nu, ns, ny, nr, ct, sw_at, sw_ne, tla_0, tla_o] using h.l0,
  by simpa (disch := decide) [cV, nu, ns, ny, nr, ct, sw_at, sw_ne, tla_0, tla_o] using h.l1,
  by simp (disch := decide) [cV, nu, ns, ny, nr, ct, sw_at, sw_ne, ct0]; rfl,
  by simp (disch := decide) [cV, nu, ns, ny, nr, ct, sw_at, sw_ne, ct0],
  by simp (disch := decide) [cV, nu, ns, ny, nr, ct, sw_at, sw_ne, ct0]; rfl,
  by simp (disch := decide) [cV, ct, sw_at, sw_ne, ct0],
  fun k hk => absurd hk (by simp (disch := decide) [cV, nu, ns, ny, nr, ct, sw_at, sw_ne, ct0]),
  fun s k _ hk => absurd hk (by simp (disch := decide) [cV, ns, ct, sw_at, sw_ne, ct0]),
  fun k hk => absurd hk (by simp (disch := decide) [cV, nu, ns, ny, nr, ct, sw_at, sw_ne, ct0]),
  fun k hk => absurd hk (by simp (disch := decide) [cV, nu, ns, ny, nr, ct, sw_at, sw_ne, ct0]),
  fun k hk => absurd hk (by simp (disch := decide) [cV, nu, ns, ny, nr, ct, sw_at, sw_ne, ct0]),
  fun k hk => absurd hk (by simp (disch := decide) [cV, nu, ns, ny, nr, ct, sw_at, sw_ne, ct0]),
  fun s k _ hk => absurd hk (by simp (disch := decide) [cV, ny, ct, sw_at, sw_ne, ct0]),
  fun k hk => absurd hk (by simp (disch := decide) [cV, nu, ns, ny, nr, ct, sw_at, sw_ne, ct0]),
  fun k hk => absurd hk (by simp (disch := decide) [cV, nu, ns, ny, nr, ct, sw_at, sw_ne, ct0]),
  fun k hk => absurd hk (by simp (disch := decide) [cV, nu, ns, ny, nr, ct, sw_at, sw_ne, ct0]),
  fun k hk => absurd hk (by simp (disch := decide) [cV, nu, ns, ny, nr, ct, sw_at, sw_ne, ct0]),
  by simp [cV, sw_at],
  by simp [cV, sw_at, bb],
  by simp [cV, sw_at, bb]⟩
def wV (V : Sto) (k : Nat) (p : Int32) : Sto := sw (tla V) 14 k p
def wM (M : Sto) (k : Nat) (p : Int32) : Sto := sw (tld (sw M 0 0 0)) 8 k p
theorem wV_Rel {V M : Sto} (k : Nat) (p : Int32) (h : RelD V M) : RelD (wV V k p) (wM M k p) := ⟨by simpa (disch := decide) [wV, wM, ny, ct, sw_at, sw_ne, tla_0, tld_0, tla_o, tld_o] using h.u0,
  by simpa (disch := decide) [wV, wM, ny, ct, sw_at, sw_ne, tla_0, tld_0, tla_o, tld_o] using h.s0,
  by simpa (disch := decide) [wV, wM, ny, ct, sw_at, sw_ne, tla_0, tld_0, tla_o, tld_o] using h.b0,
  by simpa (disch := decide) [wV, wM, ny, ct, sw_at, sw_ne, tla_0, tld_0, tla_o, tld_o] using h.t0,
  by simpa (disch := decide) [wV, wM, ny, ct, sw_at, sw_ne, tla_0, tld_0, tla_o, tld_o] using h.y0,
  by simpa (disch := decide) [wV, wM, ny, ct, sw_at, sw_ne, tla_0, tld_0, tla_o, tld_o] using h.r0,
  by simpa (disch := decide) [wV, wM, ny, ct, sw_at, sw_ne, tla_0, tld_0, tla_o, tld_o] using h.en,
  by simpa (disch := decide) [wV, wM, ny, ct, sw_at, sw_ne, tla_0, tld_0, tla_o, tld_o] using h.fo,
  by simpa (disch := decide) [wV, wM, ny, ct, sw_at, sw_ne, tla_0, tld_0, tla_o, tld_o] using h.gr,
  by simpa (disch := decide) [wV, wM, ny, ct, sw_at, sw_ne, tla_0, tld_0, tla_o, tld_o] using h.arc,
  by simpa (disch := decide) [wV, wM, ny, ct, sw_at, sw_ne, tla_0, tld_0, tla_o, tld_o] using h.su,
  by simpa (disch := decide) [wV, wM, ny, ct, sw_at, sw_ne, tla_0, tld_0, tla_o, tld_o] using h.sk,
  by simpa (disch := decide) [wV, wM, ny, ct, sw_at, sw_ne, tla_0, tld_0, tla_o, tld_o] using h.sz,
  by simpa (disch := decide) [wV, wM, ny, ct, sw_at, sw_ne, tla_0, tld_0, tla_o, tld_o] using h.al,
  by simpa (disch := decide) [wV, wM, ny, ct, sw_at, sw_ne, tla_0, tld_0, tla_o, tld_o] using h.fw,
  by simpa (disch := decide) [wV, wM, ny, ct, sw_at, sw_ne, tla_0, tld_0, tla_o, tld_o] using h.kp,
  by
    intro j hj
    have hj' : j < (V 2 2).toNatClampNeg := by simpa (disch := decide) [wV, ct, sw_ne, tla_o] using hj
    have h1 := h.wd j hj'
    simp (disch := decide) only [wV, wM, sw_at, sw_ne, tla_o, tld_o, h1],
  by simpa (disch := decide) [wV, wM, ny, ct, sw_at, sw_ne, tla_0, tld_0, tla_o, tld_o] using h.yu,
  by simpa (disch := decide) [wV, wM, ny, ct, sw_at, sw_ne, tla_0, tld_0, tla_o, tld_o] using h.yf,
  by simpa (disch := decide) [wV, wM, ny, ct, sw_at, sw_ne, tla_0, tld_0, tla_o, tld_o] using h.ys,
  by simpa (disch := decide) [wV, wM, ny, ct, sw_at, sw_ne, tla_0, tld_0, tla_o, tld_o] using h.yv,
  by simpa (disch := decide) [wV, wM, ny, ct, sw_at, sw_ne, tla_0, tld_0, tla_o, tld_o] using h.yn,
  by simpa (disch := decide) [wV, wM, ny, ct, sw_at, sw_ne, tla_0, tld_0, tla_o, tld_o] using h.yb,
  by simpa (disch := decide) [wV, wM, ny, ct, sw_at, sw_ne, tla_0, tld_0, tla_o, tld_o] using h.rs,
  by simpa (disch := decide) [wV, wM, ny, ct, sw_at, sw_ne, tla_0, tld_0, tla_o, tld_o] using h.rp,
  by simpa (disch := decide) [wV, wM, ny, ct, sw_at, sw_ne, tla_0, tld_0, tla_o, tld_o] using h.rt,
  by simpa (disch := decide) [wV, wM, ny, ct, sw_at, sw_ne, tla_0, tld_0, tla_o, tld_o] using h.ry,
  by simpa (disch := decide) [wV, wM, ny, ct, sw_at, sw_ne, tla_0, tld_0, tla_o, tld_o] using h.ra⟩
theorem wV_F (V M : Sto) (k : Nat) (p : Int32) : RelF (wV V k p) (wM M k p) := ⟨by simp (disch := decide) [wV, wM, bb, sw_at, sw_ne, tla_0, tld_0, tla_o, tld_o], by simp (disch := decide) [wV, wM, bb, sw_at, sw_ne, tla_0, tld_0, tla_o, tld_o], by simp (disch := decide) [wV, wM, bb, sw_at, sw_ne, tla_0, tld_0, tla_o, tld_o], by simp (disch := decide) [wV, wM, bb, sw_at, sw_ne, tla_0, tld_0, tla_o, tld_o], by simp (disch := decide) [wV, wM, bb, sw_at, sw_ne, tla_0, tld_0, tla_o, tld_o]⟩
theorem wV_WF {V : Sto} (k : Nat) (p : Int32) (h : WF V) : WF (wV V k p) := ⟨by simpa (disch := decide) [wV, nu, ns, ny, nr, ct, sw_at, sw_ne, tla_0, tla_o] using h.u0,
  by simpa (disch := decide) [wV, nu, ns, ny, nr, ct, sw_at, sw_ne, tla_0, tla_o] using h.u1,
  by simpa (disch := decide) [wV, nu, ns, ny, nr, ct, sw_at, sw_ne, tla_0, tla_o] using h.s0,
  by simpa (disch := decide) [wV, nu, ns, ny, nr, ct, sw_at, sw_ne, tla_0, tla_o] using h.s1,
  by simpa (disch := decide) [wV, nu, ns, ny, nr, ct, sw_at, sw_ne, tla_0, tla_o] using h.y0,
  by simpa (disch := decide) [wV, nu, ns, ny, nr, ct, sw_at, sw_ne, tla_0, tla_o] using h.y1,
  by simpa (disch := decide) [wV, nu, ns, ny, nr, ct, sw_at, sw_ne, tla_0, tla_o] using h.r0,
  by simpa (disch := decide) [wV, nu, ns, ny, nr, ct, sw_at, sw_ne, tla_0, tla_o] using h.r1,
  by simpa (disch := decide) [wV, nu, ns, ny, nr, ct, sw_at, sw_ne, tla_0, tla_o] using h.arc,
  by simpa (disch := decide) [wV, nu, ns, ny, nr, ct, sw_at, sw_ne, tla_0, tla_o] using h.su,
  by simpa (disch := decide) [wV, nu, ns, ny, nr, ct, sw_at, sw_ne, tla_0, tla_o] using h.sk,
  by simpa (disch := decide) [wV, nu, ns, ny, nr, ct, sw_at, sw_ne, tla_0, tla_o] using h.sz,
  by simpa (disch := decide) [wV, nu, ns, ny, nr, ct, sw_at, sw_ne, tla_0, tla_o] using h.al,
  by simpa (disch := decide) [wV, nu, ns, ny, nr, ct, sw_at, sw_ne, tla_0, tla_o] using h.kp,
  by simpa (disch := decide) [wV, nu, ns, ny, nr, ct, sw_at, sw_ne, tla_0, tla_o] using h.l0,
  by simpa (disch := decide) [wV, nu, ns, ny, nr, ct, sw_at, sw_ne, tla_0, tla_o] using h.l1,
  by simpa (disch := decide) [wV, nu, ns, ny, nr, ct, sw_at, sw_ne, tla_0, tla_o] using h.b0,
  by simpa (disch := decide) [wV, nu, ns, ny, nr, ct, sw_at, sw_ne, tla_0, tla_o] using h.b1,
  by simpa (disch := decide) [wV, nu, ns, ny, nr, ct, sw_at, sw_ne, tla_0, tla_o] using h.t0,
  by simpa (disch := decide) [wV, nu, ns, ny, nr, ct, sw_at, sw_ne, tla_0, tla_o] using h.t1,
  by simpa (disch := decide) [wV, nu, ns, ny, nr, ct, sw_at, sw_ne, tla_0, tla_o] using h.fw,
  by simpa (disch := decide) [wV, nu, ns, ny, nr, ct, sw_at, sw_ne, tla_0, tla_o] using h.fd,
  by simpa (disch := decide) [wV, nu, ns, ny, nr, ct, sw_at, sw_ne, tla_0, tla_o] using h.yu,
  by simpa (disch := decide) [wV, nu, ns, ny, nr, ct, sw_at, sw_ne, tla_0, tla_o] using h.yn,
  by simpa (disch := decide) [wV, nu, ns, ny, nr, ct, sw_at, sw_ne, tla_0, tla_o] using h.yb,
  by simpa (disch := decide) [wV, nu, ns, ny, nr, ct, sw_at, sw_ne, tla_0, tla_o] using h.yf,
  by simpa (disch := decide) [wV, nu, ns, ny, nr, ct, sw_at, sw_ne, tla_0, tla_o] using h.uq,
  by simpa (disch := decide) [wV, nu, ns, ny, nr, ct, sw_at, sw_ne, tla_0, tla_o] using h.rs,
  by simpa (disch := decide) [wV, nu, ns, ny, nr, ct, sw_at, sw_ne, tla_0, tla_o] using h.rp,
  by simpa (disch := decide) [wV, nu, ns, ny, nr, ct, sw_at, sw_ne, tla_0, tla_o] using h.rt,
  by simpa (disch := decide) [wV, nu, ns, ny, nr, ct, sw_at, sw_ne, tla_0, tla_o] using h.ry,
  by simpa (disch := decide) [wV, nu, ns, ny, nr, ct, sw_at, sw_ne, tla_0, tla_o] using h.en,
  by simpa (disch := decide) [wV, nu, ns, ny, nr, ct, sw_at, sw_ne, tla_0, tla_o] using h.fo,
  by simpa (disch := decide) [wV, nu, ns, ny, nr, ct, sw_at, sw_ne, tla_0, tla_o] using h.gr⟩
theorem T0.mk' {V M : Sto} (h1 : WF V) (h2 : RelD V M) (h3 : RelF V M) (h4 : V 0 14 = 0) : T0 V M := ⟨h1, h2, h3, h4⟩
theorem isName_eq (V : Sto) (p : Int32) : f_Ly_isName V p = some (if ib p 200 = true then 1 else 0, V) := by
  have e0 : (0 : Int32).toInt = 0 := by decide
  have e2 : (200 : Int32).toInt = 200 := by decide
  unfold f_Ly_isName
  by_cases h : ib p 200 = true
  · rw [if_pos h]
    rw [ib_iff] at h
    rw [if_neg (by rw [Int32.lt_iff_toInt_lt, e0]; omega), if_neg (by rw [Int32.le_iff_toInt_le, e2]; omega)]
  · rw [if_neg h]
    rw [ib_iff] at h
    by_cases h0 : p < 0
    · rw [if_pos h0]
    · rw [if_neg h0, if_pos]
      rw [Int32.lt_iff_toInt_lt, e0] at h0
      rw [Int32.le_iff_toInt_le, e2]
      omega
theorem has_ib (V : Sto) {q : Nat} (h0 : V q 0 = nI ((V q 0).toNatClampNeg)) (hb : (V q 0).toNatClampNeg ≤ 1000) (p : Int32) : (if p < 0 then (some (0, V) : RT) else if V q 0 ≤ p then some (0, V) else some (1, V)) = some (if ib p ((V q 0).toNatClampNeg) = true then 1 else 0, V) := by
  have e0 : (0 : Int32).toInt = 0 := by decide
  have e2 : (V q 0).toInt = ((V q 0).toNatClampNeg : Int) := by
    have := nI_toInt (n := (V q 0).toNatClampNeg) (by omega)
    rw [← h0] at this
    exact this
  by_cases h : ib p ((V q 0).toNatClampNeg) = true
  · rw [if_pos h]
    rw [ib_iff] at h
    rw [if_neg (by rw [Int32.lt_iff_toInt_lt, e0]; omega), if_neg (by rw [Int32.le_iff_toInt_le, e2]; omega)]
  · rw [if_neg h]
    rw [ib_iff] at h
    by_cases h1 : p < 0
    · rw [if_pos h1]
    · rw [if_neg h1, if_pos]
      rw [Int32.lt_iff_toInt_lt, e0] at h1
      rw [Int32.le_iff_toInt_le, e2]
      omega
theorem unHas_eq {V : Sto} (h : WF V) (p : Int32) : f_Un_has V p = some (if ib p ((V 1 0).toNatClampNeg) = true then 1 else 0, V) := has_ib V h.u0 (Nat.le_trans h.u1 (by decide)) p
theorem seHas_eq {V : Sto} (h : WF V) (p : Int32) : f_Se_has V p = some (if ib p ((V 2 0).toNatClampNeg) = true then 1 else 0, V) := has_ib V h.s0 (Nat.le_trans h.s1 (by decide)) p
theorem syHas_eq {V : Sto} (h : WF V) (p : Int32) : f_Sy_has V p = some (if ib p ((V 3 0).toNatClampNeg) = true then 1 else 0, V) := has_ib V h.y0 (Nat.le_trans h.y1 (by decide)) p
/-- the reference's test of a number -/
theorem moHas_eq (M : Sto) {n : Nat} {x : Int32} (hx : x = nI n) (hn : n ≤ 1000) (p : Int32) : f_Mo_within M p 0 (x - 1) = some (if ib p n = true then 1 else 0, M) := by
  rw [within_eq]
  have e0 : (0 : Int32).toInt = 0 := by decide
  have e1 : (1 : Int32).toInt = 1 := by decide
  have en := nI_toInt (n := n) (by omega)
  have e2 : (x - 1).toInt = (n : Int) - 1 := by
    rw [hx, subI (by rw [en, e1]; omega) (by rw [en, e1]; omega), en, e1]
  have hiff : (0 ≤ p ∧ p ≤ x - 1) ↔ ib p n = true := by
    rw [ib_iff, Int32.le_iff_toInt_le, Int32.le_iff_toInt_le, e0, e2]
    omega
  by_cases h : ib p n = true
  · rw [if_pos h, if_pos (hiff.mpr h)]
  · rw [if_neg h, if_neg (fun z => h (hiff.mp z))]
theorem op_entry {I : Sto → Sto → Prop} {V M : Sto} (h : WF V) (hr : RelD V M) (hthr : ∀ k, I V (sw M 0 0 k)) (hT : TI I) (p : Int32) : StV I cs_Lw_entry (f_Ly_entry V p) (f_Mo_entry M p) V := by
  have hg : ((-1 : Int32) ≤ p ∧ p ≤ 199) ↔ (p = -1 ∨ ib p 200 = true) := by
    rw [ib_iff, Int32.le_iff_toInt_le, Int32.le_iff_toInt_le]
    have e1 : (-1 : Int32).toInt = -1 := by decide
    have e3 : (199 : Int32).toInt = 199 := by decide
    rw [e1, e3]
    constructor
    · intro hh
      by_cases h0 : p.toInt = -1
      · exact Or.inl (eqI (by rw [h0, e1]))
      · exact Or.inr ⟨by omega, by omega⟩
    · rintro (rfl | hh)
      · decide
      · omega
  by_cases hp : p = -1 ∨ ib p 200 = true
  · have hc : f_Ly_entry V p = some (.inl 0, eV V p) := by
      unfold f_Ly_entry
      by_cases h1 : p = -1
      · rw [if_pos h1, tla_eq, cl_mk, nm_mk]; rfl
      · rw [if_neg h1, isName_eq, if_pos (hp.resolve_left h1), cl_mk, if_neg (by decide), tla_eq, cl_mk, nm_mk]; rfl
    refine ⟨0, 0, eV V p, 0, eM M p, Or.inl ⟨hc, rfl⟩, ?_, ?_, trivial, hT _ _ ⟨eV_WF p h hp, eV_Rel p hr, eV_F V M p, ?_⟩, ?_⟩
    · unfold f_Mo_entry
      simp only [within_eq, if_pos (hg.mpr hp), cl_mk, i10, if_false, refuse_00, i00, if_true, tld_eq, nm_mk]
      rfl
    · simp (disch := decide) [eM, sw_at, tld_0]
    · simp (disch := decide) [eV, sw_at, tla_0]
    · rw [Nat.zero_add, phi_eq (show eV V p 1000 = V 1000 by simp (disch := decide) [eV, sw_ne, tla_o])]
      exact Nat.le_refl _
  · refine sv_thr (e := 0) (k := 1) ?_ (List.mem_of_getElem? (i := 0) rfl) (by decide) (b := 0) (M := M) ?_ (hthr 1)
    · unfold f_Ly_entry
      rw [if_neg (fun e => hp (Or.inl e)), isName_eq, if_neg (fun e => hp (Or.inr e)), cl_mk, if_pos rfl]
    · unfold f_Mo_entry
      simp only [within_eq, if_neg (fun z => hp (hg.mp z)), cl_mk, i00, if_true, refuse_10, i10, if_false]
theorem op_keep {I : Sto → Sto → Prop} {V M : Sto} (h : WF V) (hr : RelD V M) (hthr : ∀ k, I V (sw M 0 0 k)) (hT : TI I) (p q : Int32) (hq : bb q = true) : StV I cs_Lw_keep (f_Ly_keep V p q) (f_Mo_keep M p q) V := by
  have hm := moHas_eq M (hr.s0.trans h.s0) (by have := h.s1; omega) p
  by_cases hp : ib p ((V 2 0).toNatClampNeg) = true
  · have hb : ib p 96 = true := ib_mono hp h.s1
    refine ⟨0, 0, kV V (p.toNatClampNeg) q, 0, kM M (p.toNatClampNeg) q, Or.inl ⟨?_, rfl⟩, ?_, ?_, trivial, hT _ _ ⟨kV_WF _ q h hq, kV_Rel _ q hr, kV_F V M _ q, ?_⟩, ?_⟩
    · unfold f_Ly_keep
      rw [seHas_eq h, if_pos hp, cl_mk, if_neg (by decide), tla_eq, cl_mk, hb, ck_mk, nm_mk, nar_bb hq]
      rfl
    · unfold f_Mo_keep
      simp only [hm, if_pos hp, cl_mk, jn_mk, i10, if_false, refuse_00, i00, if_true, tld_eq, hb, ck_mk, nm_mk, nar_bb hq]
      rfl
    · simp (disch := decide) [kM, sw_at, sw_ne, tld_0]
    · simp (disch := decide) [kV, sw_at, sw_ne, tla_0]
    · rw [Nat.zero_add, phi_eq (show kV V (p.toNatClampNeg) q 1000 = V 1000 by simp (disch := decide) [kV, sw_ne, tla_o])]
      exact Nat.le_refl _
  · refine sv_thr (e := 0) (k := 1) ?_ (List.mem_of_getElem? (i := 0) rfl) (by decide) (b := 0) (M := M) ?_ (hthr 1)
    · unfold f_Ly_keep
      rw [seHas_eq h, if_neg hp, cl_mk, if_pos rfl]
    · unfold f_Mo_keep
      simp only [hm, if_neg hp, cl_mk, jn_mk, i00, if_true, refuse_10, i10, if_false]
theorem op_fold {I : Sto → Sto → Prop} {V M : Sto} (h : WF V) (hr : RelD V M) (hT : TI I) (p q : Int32) (hp : bb p = true) (hq : bb q = true) : StF I (f_Ly_fold V p q) (f_Mo_fold M p q) V := by
  refine ⟨0, fV V p q, 0, fM M p q, ?_, ?_, hT _ _ ⟨fV_WF p q h hp hq, fV_Rel p q hr, fV_F V M p q, ?_⟩, ?_⟩
  · unfold f_Ly_fold
    rw [tla_eq, cl_mk, hp, ck_mk, nm_mk, hq, ck_mk, nm_mk]
    rfl
  · unfold f_Mo_fold
    simp only [nm_mk, tld_eq, cl_mk, hp, ck_mk, hq]
    rfl
  · simp (disch := decide) [fV, sw_at, tla_0]
  · rw [Nat.zero_add, phi_eq (show fV V p q 1000 = V 1000 by simp (disch := decide) [fV, sw_ne, tla_o])]
    exact Nat.le_refl _
theorem op_clear {I : Sto → Sto → Prop} {V M : Sto} (h : WF V) (hr : RelD V M) (hT : TI I) : StF I (f_Ly_clear V) (f_Mo_clear M) V := by
  refine ⟨0, cV V, 0, cM M, rfl, rfl, hT _ _ ⟨cV_WF h, cV_Rel hr, cV_F V M, ?_⟩, ?_⟩
  · simp (disch := decide) [cV, sw_at, sw_ne, tla_0]
  · rw [Nat.zero_add, phi_eq (show cV V 1000 = V 1000 by simp (disch := decide) [cV, sw_ne, tla_o])]
    exact Nat.le_refl _
