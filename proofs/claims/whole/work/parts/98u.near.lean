/-! Targets, and how near they are. -/
def CT (V S F : Sto) : Prop :=
  (Dat V F) ∧
  (OrdQ V F) ∧
  (Only [46, 47] S F) ∧
  (FD V S F) ∧
  (NS V (inS V) F) ∧
  (MR V F) ∧
  (∀ r, r < (V 4 0).toNatClampNeg → ¬ F 43 (sec V r) = 0 → ¬ F 40 (dY V r) = 0) ∧
  (CZ F) ∧
  (CR37 F) ∧
  (∀ r, r < (V 4 0).toNatClampNeg → ¬ F 43 (sec V r) = 0 → inS V (dU V (dY V r)) = true) ∧
  (∀ r, r < (V 4 0).toNatClampNeg → ¬ F 43 (sec V r) = 0 → (F 40 (dY V r) = 1 → ¬ F 43 ((F 41 (dY V r)).toNatClampNeg) = 0) ∧ (F 40 (dY V r) = 3 → ¬ F 44 ((F 41 (dY V r)).toNatClampNeg) = 0)) ∧
  (∀ s, s < 96 → F 43 s = 0 ∨ F 43 s = 1) ∧
  (∀ n, n < 200 → F 44 n = 0 ∨ F 44 n = 1) ∧
  (∀ s, s < 96 → ¬ F 43 s = 0 → s < (V 2 0).toNatClampNeg)
theorem CT.d {V S F : Sto} (h : CT V S F) : Dat V F := h.1
theorem CT.o {V S F : Sto} (h : CT V S F) : OrdQ V F := h.2.1
theorem CT.s {V S F : Sto} (h : CT V S F) : Only [46, 47] S F := h.2.2.1
theorem CT.f {V S F : Sto} (h : CT V S F) : FD V S F := h.2.2.2.1
theorem CT.n {V S F : Sto} (h : CT V S F) : NS V (inS V) F := h.2.2.2.2.1
theorem CT.m {V S F : Sto} (h : CT V S F) : MR V F := h.2.2.2.2.2.1
theorem CT.z {V S F : Sto} (h : CT V S F) : ∀ r, r < (V 4 0).toNatClampNeg → ¬ F 43 (sec V r) = 0 → ¬ F 40 (dY V r) = 0 := h.2.2.2.2.2.2.1
theorem CT.c {V S F : Sto} (h : CT V S F) : CZ F := h.2.2.2.2.2.2.2.1
theorem CT.k {V S F : Sto} (h : CT V S F) : CR37 F := h.2.2.2.2.2.2.2.2.1
theorem CT.a {V S F : Sto} (h : CT V S F) : ∀ r, r < (V 4 0).toNatClampNeg → ¬ F 43 (sec V r) = 0 → inS V (dU V (dY V r)) = true := h.2.2.2.2.2.2.2.2.2.1
theorem CT.r {V S F : Sto} (h : CT V S F) : ∀ r, r < (V 4 0).toNatClampNeg → ¬ F 43 (sec V r) = 0 → (F 40 (dY V r) = 1 → ¬ F 43 ((F 41 (dY V r)).toNatClampNeg) = 0) ∧ (F 40 (dY V r) = 3 → ¬ F 44 ((F 41 (dY V r)).toNatClampNeg) = 0) := h.2.2.2.2.2.2.2.2.2.2.1
theorem CT.b {V S F : Sto} (h : CT V S F) : ∀ s, s < 96 → F 43 s = 0 ∨ F 43 s = 1 := h.2.2.2.2.2.2.2.2.2.2.2.1
theorem CT.e {V S F : Sto} (h : CT V S F) : ∀ n, n < 200 → F 44 n = 0 ∨ F 44 n = 1 := h.2.2.2.2.2.2.2.2.2.2.2.2.1
theorem CT.g {V S F : Sto} (h : CT V S F) : ∀ s, s < 96 → ¬ F 43 s = 0 → s < (V 2 0).toNatClampNeg := h.2.2.2.2.2.2.2.2.2.2.2.2.2
theorem CT.mk' {V S F M : Sto} (h : WF V) (hQ : NQ V S M) (hO : Only [46, 47] S F) (hF : FD V S F) : CT V S F := by
  have hs1 := h.s1
  have hy1 := h.y1
  have e37 := hO 37 (by decide)
  have e38 := hO 38 (by decide)
  have e39 := hO 39 (by decide)
  have e40 := hO 40 (by decide)
  have e41 := hO 41 (by decide)
  have e42 := hO 42 (by decide)
  have e43 := hO 43 (by decide)
  have e44 := hO 44 (by decide)
  have hMF : MFs V (inS V) S := fun y hy hA => (mean_eq h hQ.n hQ.m.n hQ.m.r hy hA).2
  have hRc : ∀ r, r < (V 4 0).toNatClampNeg → ¬ S 43 (sec V r) = 0 → Rch V (inS V) S (sec V r) := fun r hr h3 => by
    rcases hQ.r.r (sec V r) (by have := (sec_lt h hr).1; omega) with ⟨-, e⟩ | ⟨e, -⟩
    · exact e
    · exact absurd e h3
  have hin : ∀ r, r < (V 4 0).toNatClampNeg → ¬ S 43 (sec V r) = 0 → inS V (dU V (dY V r)) = true := fun r hr h3 => by
    rw [(dY_lt h hr).2.1]
    exact ((hRc r hr h3).inn h hQ.n.n hMF).2
  refine ⟨hQ.d.only hO (by decide), hQ.o.keep (hO 32 (by decide)) (hO 33 (by decide)), hO, hF, hQ.n.congr (hO 6 (by decide)) e37 e38 e39 e40 e41 e42, ?_, ?_, ?_, ?_, ?_, ?_, ?_, ?_, ?_⟩
  · intro r hr h3
    rw [e43] at h3
    have := hQ.mr h r hr h3
    unfold MF at this ⊢
    rw [e40, e41, e42, icm_congr e37 e39]
    exact this
  · rw [e43, e40]
    intro r hr h3
    refine hQ.z r hr ?_
    rcases hQ.r.r (sec V r) (by have := (sec_lt h hr).1; omega) with ⟨e, -⟩ | ⟨e, -⟩
    · exact e
    · exact absurd e h3
  · intro n hn
    rw [e39, hQ.n.n.c n hn]
    have h1 := cz_le h (A := inS V) (n := n) ((V 3 0).toNatClampNeg) (Nat.le_refl _)
    have h2 := cz_pos h (A := inS V) (n := n) ((V 3 0).toNatClampNeg) (Nat.le_refl _)
    rw [cI (by omega)]
    exact ⟨rfl, h1, h2⟩
  · intro n hn h3
    rw [e44] at h3
    rw [e37]
    rcases hQ.r.c n hn with ⟨-, r, r1, r2, r3, r4⟩ | ⟨e, -⟩
    · have hA : inS V (dU V (dY V r)) = true := by rw [(dY_lt h r1).2.1]; exact (r2.inn h hQ.n.n hMF).2
      rcases hMF _ (dY_lt h r1).1 hA with ⟨f, -⟩ | ⟨f, -⟩ | ⟨f, -⟩ | ⟨-, f, -, g⟩
      · rw [r3] at f; exact absurd f (by decide)
      · rw [r3] at f; exact absurd f (by decide)
      · rw [r3] at f; exact absurd f (by decide)
      · rw [f] at r4
        have r4' : dN V (dY V r) = n := r4
        rw [r4'] at g
        unfold icm at g
        rw [Bool.and_eq_true, decide_eq_true_eq] at g
        exact g.1
    · exact absurd e h3
  · rw [e43]; exact hin
  · rw [e43, e40, e41, e44]
    intro r hr h3
    refine ⟨fun z => ?_, fun z => ?_⟩
    · have hl := ((Rch.step hr (hRc r hr h3) z).inn h hQ.n.n hMF).1
      rcases hQ.r.r ((S 41 (dY V r)).toNatClampNeg) (by omega) with ⟨e, -⟩ | ⟨-, e⟩
      · rw [e]; decide
      · exact absurd (Rch.step hr (hRc r hr h3) z) e
    · have hl : (S 41 (dY V r)).toNatClampNeg < 200 := by
        rcases hMF _ (dY_lt h hr).1 (hin r hr h3) with ⟨f, -⟩ | ⟨f, -⟩ | ⟨f, -⟩ | ⟨-, f, -, g⟩
        · rw [z] at f; exact absurd f (by decide)
        · rw [z] at f; exact absurd f (by decide)
        · rw [z] at f; exact absurd f (by decide)
        · rw [f]; exact ib_lt (h.yn _ (dY_lt h hr).1)
      rcases hQ.r.c _ hl with ⟨e, -⟩ | ⟨-, e⟩
      · rw [e]; decide
      · exact absurd ⟨r, hr, hRc r hr h3, z, rfl⟩ e
  · rw [e43]
    intro s hs
    rcases hQ.r.r s hs with ⟨e, -⟩ | ⟨e, -⟩
    · exact Or.inr e
    · exact Or.inl e
  · rw [e44]
    intro n hn
    rcases hQ.r.c n hn with ⟨e, -⟩ | ⟨e, -⟩
    · exact Or.inr e
    · exact Or.inl e
  · rw [e43]
    intro s hs h3
    rcases hQ.r.r s hs with ⟨-, e⟩ | ⟨e, -⟩
    · exact (e.inn h hQ.n.n hMF).1
    · exact absurd e h3
def stO (X : Sto) (y : Nat) : Int32 := if X 40 y = 1 then X 48 ((X 41 y).toNatClampNeg) else if X 40 y = 3 then X 49 ((X 41 y).toNatClampNeg) else 0
def adO (X : Sto) (y : Nat) : Int32 := stO X y + X 42 y
def tgC (V X : Sto) (r : Nat) : Int32 := adO X (dY V r) + V 31 r
def plC (V X : Sto) (r : Nat) : Int32 := X 48 (sec V r) + V 28 r
def nearB (w : Int64) : Bool := if lg_cmp (w - w / 4 * 4) 0 = 0 then (if lg_cmp w (-131072) < 0 then false else if 0 < lg_cmp w 131068 then false else true) else false
def wyC (V X : Sto) (g : Int32) (r : Nat) : Int64 := (g.toInt64 - (plC V X r).toInt64) - 4
theorem CT.w {V S F : Sto} (h : WF V) (hC : CT V S F) {r : Nat} (hr : r < (V 4 0).toNatClampNeg) (h3 : ¬ F 43 (sec V r) = 0) : (F 40 (dY V r) = 1 → ib (F 41 (dY V r)) 96 = true ∧ (F 41 (dY V r)).toNatClampNeg < (V 2 0).toNatClampNeg) ∧ (F 40 (dY V r) = 3 → F 41 (dY V r) = V 22 (dY V r) ∧ ib (F 41 (dY V r)) 200 = true) := by
  refine ⟨fun z => hC.m.w h hr h3 z, fun z => ?_⟩
  rcases hC.m r hr h3 with ⟨f, -⟩ | ⟨f, -⟩ | ⟨f, -⟩ | ⟨-, f, -⟩
  · rw [z] at f; exact absurd f (by decide)
  · rw [z] at f; exact absurd f (by decide)
  · rw [z] at f; exact absurd f (by decide)
  · exact ⟨f, by rw [f]; exact h.yn _ (dY_lt h hr).1⟩
theorem startOf_eq {X : Sto} {y : Nat} (h1 : X 40 y = 1 → ib (X 41 y) 96 = true) (h3 : X 40 y = 3 → ib (X 41 y) 200 = true) : f_La_startOf X (X 40 y) (X 41 y) = some (stO X y, X) := by
  unfold f_La_startOf stO
  by_cases c1 : X 40 y = 1
  · rw [if_pos c1, if_pos c1, h1 c1, ck_mk]
  · rw [if_neg c1, if_neg c1]
    by_cases c3 : X 40 y = 3
    · rw [if_pos c3, if_pos c3, h3 c3, ck_mk]
    · rw [if_neg c3, if_neg c3]
theorem addressOf_eq {X : Sto} {y : Nat} (hy : y < 400) (h1 : X 40 y = 1 → ib (X 41 y) 96 = true) (h3 : X 40 y = 3 → ib (X 41 y) 200 = true) : f_La_addressOf X (nI y) = some (adO X y, X) := by
  unfold f_La_addressOf adO
  rw [ib_nI hy (by decide), cI (by omega)]
  simp only [ck_mk]
  rw [startOf_eq h1 h3, cl_mk]
theorem targetOf_eq {V S F X : Sto} (h : WF V) (hC : CT V S F) (hX : Only LC F X) {r : Nat} (hr : r < (V 4 0).toNatClampNeg) (h3 : ¬ F 43 (sec V r) = 0) : f_Is_targetOf X (nI r) = some (tgC V X r, X) := by
  have hr1 := h.r1
  have hy1 := h.y1
  obtain ⟨y1, -, y3⟩ := dY_lt h hr
  have hdX : Dat V X := hC.d.only hX (by decide)
  unfold f_Is_targetOf tgC
  rw [ib_nI (show r < 600 by omega) (by decide), ck_mk, cI (by omega), hdX 30 rfl, y3, addressOf_eq (by omega) (fun z => by
    rw [hX 40 (by decide)] at z
    rw [hX 41 (by decide)]
    exact ((hC.w h hr h3).1 z).1) (fun z => by
    rw [hX 40 (by decide)] at z
    rw [hX 41 (by decide)]
    exact ((hC.w h hr h3).2 z).2), cl_mk, ck_mk, hdX 31 rfl]
theorem placeOf_eq {V X : Sto} (h : WF V) (hd : Dat V X) {r : Nat} (hr : r < (V 4 0).toNatClampNeg) : f_Is_placeOf X (nI r) = some (plC V X r, X) := by
  have hr1 := h.r1
  have hs1 := h.s1
  obtain ⟨s1, s2⟩ := sec_lt h hr
  unfold f_Is_placeOf plC
  rw [ib_nI (show r < 600 by omega) (by decide), cI (by omega), hd 27 rfl, hd 28 rfl, s2, ib_nI (show sec V r < 96 by omega) (by decide), cI (by omega)]
  rfl
theorem isNearC_eq {V X : Sto} (h : WF V) (hd : Dat V X) {r : Nat} (hr : r < (V 4 0).toNatClampNeg) (g : Int32) : f_Is_isNear X (nI r) g = some (b2 (nearB (wyC V X g r)), X) := by
  unfold f_Is_isNear
  rw [placeOf_eq h hd hr, cl_mk]
  unfold nearB wyC
  by_cases c1 : lg_cmp (((g.toInt64 - (plC V X r).toInt64) - 4) - ((g.toInt64 - (plC V X r).toInt64) - 4) / 4 * 4) 0 = 0
  · rw [if_pos c1, if_pos c1]
    by_cases c2 : lg_cmp ((g.toInt64 - (plC V X r).toInt64) - 4) (-131072) < 0
    · rw [if_pos c2, if_pos c2]; rfl
    · rw [if_neg c2, if_neg c2]
      by_cases c3 : 0 < lg_cmp ((g.toInt64 - (plC V X r).toInt64) - 4) 131068
      · rw [if_pos c3, if_pos c3]; rfl
      · rw [if_neg c3, if_neg c3]; rfl
  · rw [if_neg c1, if_neg c1]; rfl
theorem isNearM_eq (Y : Sto) (w : Int64) : f_Mo_isNear Y w = some (b2 (nearB w), Y) := by
  unfold f_Mo_isNear nearB
  by_cases c1 : lg_cmp (w - w / 4 * 4) 0 = 0
  · rw [if_pos c1, if_pos c1]
    by_cases c2 : lg_cmp w (-131072) < 0
    · rw [if_pos c2, if_pos c2]; rfl
    · rw [if_neg c2, if_neg c2]
      by_cases c3 : 0 < lg_cmp w 131068
      · rw [if_pos c3, if_pos c3]; rfl
      · rw [if_neg c3, if_neg c3]; rfl
  · rw [if_neg c1, if_neg c1]; rfl
/-- the two layouts give the same addresses -/
def AD (V F X Y : Sto) : Prop :=
  (∀ s, s < (V 2 0).toNatClampNeg → ¬ F 43 s = 0 → Y 27 s = X 48 s) ∧
  (∀ n, n < 200 → ¬ F 44 n = 0 → Y 24 n = X 49 n)
theorem AD.s {V F X Y : Sto} (h : AD V F X Y) : ∀ s, s < (V 2 0).toNatClampNeg → ¬ F 43 s = 0 → Y 27 s = X 48 s := h.1
theorem AD.n {V F X Y : Sto} (h : AD V F X Y) : ∀ n, n < 200 → ¬ F 44 n = 0 → Y 24 n = X 49 n := h.2
theorem meaning_eq {V S F X Y : Sto} (h : WF V) (hC : CT V S F) (hX : Only LC F X) (hY : MX V F Y) (hA : AD V F X Y) {y : Nat} (hy : y < (V 3 0).toNatClampNeg) (ha : inS V (dU V y) = true) (h1 : F 40 y = 1 → ¬ F 43 ((F 41 y).toNatClampNeg) = 0) (h3 : F 40 y = 3 → ¬ F 44 ((F 41 y).toNatClampNeg) = 0) : f_Mo_meaning Y (nI y) = some (adO X y, Y) := by
  have hy1 := h.y1
  have hs1 := h.s1
  obtain ⟨mc, mf'⟩ := mean_eq h hC.n hY.m.n hY.m.r hy ha
  unfold f_Mo_meaning adO stO
  rw [mc.so, cl_mk, hX 40 (by decide), hX 41 (by decide), hX 42 (by decide)]
  rcases mf' with ⟨e, e1, e2⟩ | ⟨e, e1, e2⟩ | ⟨e, e1⟩ | ⟨e, e1, e2, e3⟩
  · rw [e, if_neg (show ¬ (0 : Int32) = 1 by decide), if_neg (show ¬ (0 : Int32) = 3 by decide), mc.no (by rw [e]; decide), cl_mk, if_neg (show ¬ (0 : Int32) = 1 by decide), if_neg (show ¬ (0 : Int32) = 3 by decide), Int32.zero_add]
  · rw [e, if_pos rfl, mc.se, cl_mk, if_pos e, ib_mono e1 hs1, ck_mk, mc.no (by rw [e]; decide), cl_mk, if_pos rfl, hA.s _ (ib_lt e1) (h1 e)]
  · rw [e, if_neg (show ¬ (2 : Int32) = 1 by decide), if_neg (show ¬ (2 : Int32) = 3 by decide), mc.no (by rw [e]; decide), cl_mk, if_neg (show ¬ (2 : Int32) = 1 by decide), if_neg (show ¬ (2 : Int32) = 3 by decide), Int32.zero_add]
  · have hn := h.yn y hy
    rw [e, if_neg (show ¬ (3 : Int32) = 1 by decide), if_pos rfl, ib_nI (show y < 400 by omega) (by decide), ck_mk, cI (by omega), hY.m.r.yn, hn, ck_mk, if_neg (show ¬ (3 : Int32) = 1 by decide), if_pos rfl, e2, Int32.add_zero, e1]
    have := h3 e
    rw [e1] at this
    rw [hA.n _ (ib_lt hn) this]
theorem placeAt_eq {V F X Y : Sto} (h : WF V) (hY : MX V F Y) (hA : AD V F X Y) {r : Nat} (hr : r < (V 4 0).toNatClampNeg) (h3 : ¬ F 43 (sec V r) = 0) : f_Mo_placeAt Y (nI r) = some (plC V X r, Y) := by
  have hr1 := h.r1
  have hs1 := h.s1
  obtain ⟨s1, s2⟩ := sec_lt h hr
  unfold f_Mo_placeAt plC
  rw [ib_nI (show r < 600 by omega) (by decide), cI (by omega), hY.m.r.rs, hY.m.r.rp, s2, ib_nI (show sec V r < 96 by omega) (by decide), cI (by omega), hA.s _ s1 h3]
  rfl
theorem isNearT_eq {V S F X Y : Sto} (h : WF V) (hC : CT V S F) (hX : Only LC F X) (hY : MX V F Y) (hA : AD V F X Y) {r : Nat} (hr : r < (V 4 0).toNatClampNeg) (h3 : ¬ F 43 (sec V r) = 0) : f_Mo_isNearTarget Y (nI r) = some (b2 (nearB (wyC V X (tgC V X r) r)), Y) := by
  have hr1 := h.r1
  obtain ⟨y1, -, y3⟩ := dY_lt h hr
  unfold f_Mo_isNearTarget
  rw [ib_nI (show r < 600 by omega) (by decide), cI (by omega), hY.m.r.ry, y3, meaning_eq h hC hX hY hA y1 (hC.a r hr h3) (hC.r r hr h3).1 (hC.r r hr h3).2]
  simp only [ck_mk, cl_mk]
  rw [placeAt_eq h hY hA hr h3, cl_mk, hY.m.r.ra, isNearM_eq, cl_mk, bb_b2, ck_mk]
  rfl
theorem stg_43 {F : Sto} {s : Nat} (h : stg F s = true) : ¬ F 43 s = 0 ∧ F 46 s = nI s := by
  unfold stg at h
  rw [Bool.and_eq_true, decide_eq_true_eq, Bool.not_eq_true', decide_eq_false_iff_not] at h
  exact h
theorem isStanding_eq {F X : Sto} (hX : Only LC F X) {s : Nat} (hs : s < 96) : f_La_isStanding X (nI s) = some (b2 (stg F s), X) := by
  unfold f_La_isStanding stg
  rw [ib_nI hs (by decide), ck_mk, cI (by omega), hX 43 (by decide), isFolded_eq (hX 46 (by decide)) hs, cl_mk]
  by_cases c : F 43 s = 0
  · rw [if_pos c, decide_eq_true c]; rfl
  · rw [if_neg c, decide_eq_false c]
    by_cases d : F 46 s = nI s
    · rw [decide_eq_true d, Bool.not_true, if_pos b2f]; rfl
    · rw [decide_eq_false d, Bool.not_false, if_neg b2t]; rfl
def goP (V F : Sto) (r : Nat) : Bool := decide (V 29 r = 4) && (decide (V 16 (sec V r) = 0) && stg F (sec V r))
def strP (V F X : Sto) (r : Nat) : Bool := decide (X 53 r = -1) && (goP V F r && !nearB (wyC V X (tgC V X r) r))
theorem mayGo_eq {V S F X : Sto} (h : WF V) (hC : CT V S F) (hX : Only LC F X) {r : Nat} (hr : r < (V 4 0).toNatClampNeg) : f_Is_mayGo X (nI r) = some (b2 (goP V F r), X) := by
  have hr1 := h.r1
  have hs1 := h.s1
  have hdX : Dat V X := hC.d.only hX (by decide)
  obtain ⟨s1, s2⟩ := sec_lt h hr
  unfold f_Is_mayGo goP
  rw [ib_nI (show r < 600 by omega) (by decide), cI (by omega), hdX 27 rfl, hdX 29 rfl, hdX 16 rfl, s2, ib_nI (show sec V r < 96 by omega) (by decide), cI (by omega), isStanding_eq hX (by omega)]
  simp only [ck_mk, cl_mk]
  by_cases c1 : V 29 r = 4
  · rw [if_pos c1, decide_eq_true c1]
    by_cases c2 : V 16 (sec V r) = 0
    · rw [if_pos c2, decide_eq_true c2]
      cases stg F (sec V r) with
      | false => rw [if_pos b2f]; rfl
      | true => rw [if_neg b2t]; rfl
    · rw [if_neg c2, decide_eq_false c2]; rfl
  · rw [if_neg c1, decide_eq_false c1]; rfl
theorem firstStranded_eq {V S F X : Sto} (h : WF V) (hC : CT V S F) (hX : Only LC F X) : f_Is_firstStranded X = some (fnd V (strP V F X), X) := by
  have hr1 := h.r1
  have hdX : Dat V X := hC.d.only hX (by decide)
  have hq : OrdQ V X := hC.o.keep (hX 32 (by decide)) (hX 33 (by decide))
  have key := searchC h hq (L := lp_Is_firstStranded_2 (fun y1 V4 => some (y1, V4)) (fun V5 => some ((-1), V5))) (P := strP V F X) (kf := fun y1 V4 => some (y1, V4)) (kn := fun V5 => some ((-1), V5)) (by
    intro n i r hi h32 hr hs
    rw [lp_Is_firstStranded_2, hdX 4 rfl, if_neg (fun z => by have := (le_cnt h.r0 (by omega)).mp z; omega), ib_nI (show i < 600 by omega) (by decide), cI (show i < 2 ^ 31 by omega), h32, ib_nI (show r < 600 by omega) (by decide), cI (show r < 2 ^ 31 by omega), mayGo_eq h hC hX hr, nI1]
    simp only [ck_mk, cl_mk]
    unfold strP
    by_cases c : X 53 r = -1
    · rw [if_pos c, decide_eq_true c, Bool.true_and]
      cases hg : goP V F r with
      | false => rw [if_pos b2f, Bool.false_and, if_neg (by decide)]
      | true =>
        have hst : stg F (sec V r) = true := by
          unfold goP at hg
          rw [Bool.and_eq_true, Bool.and_eq_true] at hg
          exact hg.2.2
        rw [if_neg b2t, targetOf_eq h hC hX hr (stg_43 hst).1, cl_mk, isNearC_eq h hdX hr, cl_mk, Bool.true_and]
        cases nearB (wyC V X (tgC V X r) r) with
        | false => rw [if_pos b2f]; rfl
        | true => rw [if_neg b2t]; rfl
    · rw [if_neg c, decide_eq_false c, Bool.false_and, if_neg (by decide)]) (by
    intro n
    rw [lp_Is_firstStranded_2, hdX 4 rfl, if_pos ((le_cnt h.r0 (by omega)).mpr (Nat.le_refl _))])
  unfold f_Is_firstStranded
  refine Eq.trans key ?_
  unfold fnd
  cases (ord V).find? (strP V F X) <;> rfl
theorem needy_eq {V S F X Y : Sto} (h : WF V) (hC : CT V S F) (hX : Only LC F X) (hY : MX V F Y) (hA : AD V F X Y) (h30 : ∀ r, r < (V 4 0).toNatClampNeg → Y 30 r = X 53 r) : f_Mo_needy Y = some (fnd V (strP V F X), Y) := by
  have hr1 := h.r1
  have hs1 := h.s1
  have key := searchM h (M := Y) (P := strP V F X) (kf := fun y2 V5 => some (y2, V5)) (kn := fun V6 => some ((-1 : Int32), V6)) (Lo := lp_Mo_needy_2 (fun y2 V5 => some (y2, V5)) (fun V6 => some ((-1), V6))) (Li := fun s k => lp_Mo_needy_12 (nI s) (fun y1 V3 => some (y1, V3)) k) (by
    intro n s hs
    rw [lp_Mo_needy_2, hY.m.r.s0, if_neg (fun z => by have := (le_cnt h.s0 (by omega)).mp z; omega), nI1, nI_0]) (by
    intro n
    rw [lp_Mo_needy_2, hY.m.r.s0, if_pos ((le_cnt h.s0 (by omega)).mpr (Nat.le_refl _))]) (by
    intro s k n r hs hr
    obtain ⟨sl, se⟩ := sec_lt h hr
    show lp_Mo_needy_12 (nI s) (fun y1 V3 => some (y1, V3)) k (n + 1) (nI r) Y = if (decide (sec V r = s) && strP V F X r) = true then some (nI r, Y) else lp_Mo_needy_12 (nI s) (fun y1 V3 => some (y1, V3)) k n (nI (r + 1)) Y
    rw [lp_Mo_needy_12, hY.m.r.r0, if_neg (fun z => by have := (le_cnt h.r0 (by omega)).mp z; omega), ib_nI (show s < 96 by omega) (by decide), ib_nI (show r < 600 by omega) (by decide), cI (show s < 2 ^ 31 by omega), cI (show r < 2 ^ 31 by omega), hY.m.r.rs, hY.m.r.rt, se, stays_eq h hY hs, nI1]
    simp only [ck_mk, cl_mk]
    rw [hY.m.r.sk, h30 r hr]
    by_cases c : sec V r = s
    · rw [if_pos (by rw [c]), decide_eq_true c, Bool.true_and]
      unfold strP goP
      rw [c]
      by_cases c1 : V 29 r = 4
      · rw [if_pos c1, decide_eq_true c1, Bool.true_and]
        cases hst : stg F s with
        | false => rw [if_pos b2f, Bool.and_false, Bool.false_and, Bool.and_false, if_neg (by decide)]
        | true =>
          rw [if_neg b2t, Bool.and_true]
          by_cases c2 : V 16 s = 0
          · rw [if_pos c2, decide_eq_true c2, Bool.true_and]
            by_cases c3 : X 53 r = -1
            · rw [if_pos c3, decide_eq_true c3, Bool.true_and, isNearT_eq h hC hX hY hA hr (by rw [c]; exact (stg_43 hst).1), cl_mk]
              cases nearB (wyC V X (tgC V X r) r) with
              | false => rw [if_pos b2f]; rfl
              | true => rw [if_neg b2t]; rfl
            · rw [if_neg c3, decide_eq_false c3, Bool.false_and, if_neg (by decide)]
          · rw [if_neg c2, decide_eq_false c2, Bool.false_and, Bool.and_false, if_neg (by decide)]
      · rw [if_neg c1, decide_eq_false c1, Bool.false_and, Bool.false_and, Bool.and_false, if_neg (by decide)]
    · rw [if_neg (show ¬ nI (sec V r) = nI s from fun z => c ((nI_eq (by omega) (by omega)).mp z)), decide_eq_false c, Bool.false_and, if_neg (by decide)]) (by
    intro s k n hs
    show lp_Mo_needy_12 (nI s) (fun y1 V3 => some (y1, V3)) k (n + 1) (nI ((V 4 0).toNatClampNeg)) Y = k Y
    rw [lp_Mo_needy_12, hY.m.r.r0, if_pos ((le_cnt h.r0 (by omega)).mpr (Nat.le_refl _))])
  unfold f_Mo_needy
  refine Eq.trans key ?_
  unfold fnd
  cases (ord V).find? (strP V F X) <;> rfl
