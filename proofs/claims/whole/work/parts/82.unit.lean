/-! unit, entry, keep, fold, clear, word: told to both. -/
theorem cl_mk {β : Type} (r : Int32) (V : Sto) (k : Int32 → Sto → Option β) : cl (some (r, V)) k = k r V := rfl
theorem clT_mk (r : Int32) (V : Sto) (k : Int32 → Sto → RTT) : clT (some (.inl r, V)) k = k r V := rfl
theorem clT_th (e : Nat) (V : Sto) (k : Int32 → Sto → RTT) : clT (some (.inr e, V)) k = some (.inr e, V) := rfl
theorem ck_mk {α : Type} (k : Option α) : ck true k = k := rfl
theorem nm_mk {α β : Type} (x : α) (k : α → Option β) : nm x k = k x := rfl
theorem jn_mk {α β : Type} (k : α) (f : α → β) : jn k f = f k := rfl
theorem i10 : ((1 : Int32) = 0) = False := by simp
theorem i00 : ((0 : Int32) = 0) = True := by simp
theorem i11 : ((1 : Int32) = 1) = True := by simp
theorem i01 : ((0 : Int32) = 1) = False := by simp
theorem add_sub1 (x : Int32) : x + 1 - 1 = x := by rw [Int32.add_sub_cancel]
theorem ct_nI {n : Nat} (h : n < 2 ^ 31) : (nI n).toNatClampNeg = n := nI_clamp h
theorem nI_inc {n : Nat} : nI n + 1 = nI (n + 1) := nI1 n
theorem swsw {V W : Sto} {q i : Nat} {x : Int32} (h : V q = W q) : sw V q i x q = sw W q i x q := by
  show (if q = q then _ else _) = (if q = q then _ else _)
  rw [if_pos rfl, if_pos rfl, h]
theorem swc {V W : Sto} {q p i : Nat} {x y : Int32} (h : V q = W p) (hx : x = y) : sw V q i x q = sw W p i y p := by
  show (if q = q then _ else _) = (if p = p then _ else _)
  rw [if_pos rfl, if_pos rfl, h, hx]
def uV (V : Sto) (p : Int32) : Sto := sw (sw (sw (tla V) 12 ((V 1 0).toNatClampNeg) p) 13 ((V 1 0).toNatClampNeg) 0) 1 0 (nI ((V 1 0).toNatClampNeg + 1))
def uM (V M : Sto) (p : Int32) : Sto := sw (sw (tld (sw M 0 0 0)) 1 ((V 1 0).toNatClampNeg) p) 0 1 (nI ((V 1 0).toNatClampNeg + 1))
theorem lt_cnt {x : Int32} {n : Nat} (h : x = nI x.toNatClampNeg) (hn : n < 2 ^ 31) (hh : x < nI n) : x.toNatClampNeg < n := by
  have h2 := Int32.lt_iff_toInt_lt.mp hh
  rw [nI_toInt hn] at h2
  by_cases h0 : 0 ≤ x.toInt
  · have := clI h0
    omega
  · show x.toInt.toNat < n
    have h3 : (nI x.toNatClampNeg).toInt = (0 : Int) := by
      have : x.toNatClampNeg = 0 := by show x.toInt.toNat = 0; omega
      rw [this]
      rfl
    rw [← h] at h3
    omega
theorem cnt_lt {x : Int32} {n : Nat} (h : x = nI x.toNatClampNeg) (hn : n < 2 ^ 31) (hh : x.toNatClampNeg < n) : x < nI n := by
  have := nI_lt hh hn
  rw [← h] at this
  exact this
theorem inc_cnt {x : Int32} (h : x = nI x.toNatClampNeg) : x + 1 = nI (x.toNatClampNeg + 1) := by
  have := nI1 x.toNatClampNeg
  rw [← h] at this
  exact this
theorem ib_cnt {x : Int32} {N : Nat} (h : x = nI x.toNatClampNeg) (hn : x.toNatClampNeg < N) (hN : N < 2 ^ 31) : ib x N = true := by
  have := ib_nI hn hN
  rw [← h] at this
  exact this
theorem add_eq {V : Sto} (h : WF V) (p : Int32) (hn : (V 1 0).toNatClampNeg < 24) : f_Un_add (tla V) p = some (V 1 0, uV V p) := by
  have e1 : tla V 1 = V 1 := tla_o V (by decide)
  have hb : ib (V 1 0) 24 = true := ib_cnt h.u0 hn (by decide)
  unfold f_Un_add uV
  rw [e1, hb, ck_mk, nm_mk]
  rw [sw_ne (show (1 : Nat) ≠ 12 by decide), e1, hb, ck_mk, nm_mk]
  rw [sw_ne (show (1 : Nat) ≠ 13 by decide), sw_ne (show (1 : Nat) ≠ 12 by decide), e1, nm_mk, inc_cnt h.u0]
theorem moUnit_eq {V M : Sto} (h : WF V) (hr : RelD V M) (p : Int32) (hg : (-1 : Int32) ≤ p ∧ p ≤ 3) (hn : (V 1 0).toNatClampNeg < 24) : f_Mo_unit M p = some (V 1 0, uM V M p) := by
  have e1 : M 0 1 = V 1 0 := hr.u0
  have e24 : ¬ V 1 0 = 24 := fun e => by
    rw [e] at hn
    exact absurd hn (by decide)
  have hb : ib (V 1 0) 24 = true := ib_cnt h.u0 hn (by decide)
  have e2 : tld (sw M 0 0 0) 0 1 = V 1 0 := by rw [tld_0, sw_at]; exact e1
  unfold f_Mo_unit uM
  simp only [within_eq, if_pos hg, cl_mk, jn_mk, i10, i00, if_false, if_true, e1, e24, refuse_00, tld_eq, e2, hb, ck_mk, nm_mk, sw_ne (show (0 : Nat) ≠ 1 by decide), sw_at, add_sub1, inc_cnt h.u0]
theorem uV_cell (V : Sto) (p : Int32) : ∀ q, q ≠ 0 → q ≠ 1 → q ≠ 12 → q ≠ 13 → uV V p q = V q := fun q h0 h1 h2 h3 => by
  unfold uV
  rw [sw_ne h1, sw_ne h3, sw_ne h2, tla_o V h0]
theorem uV_WF {V : Sto} (h : WF V) (p : Int32) (hn : (V 1 0).toNatClampNeg < 24) (hp : p = -1 ∨ ib p 4 = true) : WF (uV V p) := by
  have eo := uV_cell V p
  have e1 : uV V p 1 0 = nI ((V 1 0).toNatClampNeg + 1) := by unfold uV; rw [sw_at, if_pos rfl]
  have en : ((uV V p) 1 0).toNatClampNeg = (V 1 0).toNatClampNeg + 1 := by show (uV V p 1 0).toNatClampNeg = _; rw [e1, ct_nI (by omega)]
  have e12 : ∀ u, uV V p 12 u = if u = (V 1 0).toNatClampNeg then p else V 12 u := fun u => by
    unfold uV
    rw [sw_ne (by decide), sw_ne (by decide), sw_at, tla_o V (by decide)]
  have e0 : ∀ j, uV V p 0 j = tla V 0 j := fun j => by unfold uV; rw [sw_ne (by decide), sw_ne (by decide), sw_ne (by decide)]
  have s2 := eo 2 (by decide) (by decide) (by decide) (by decide)
  have s3 := eo 3 (by decide) (by decide) (by decide) (by decide)
  have s4 := eo 4 (by decide) (by decide) (by decide) (by decide)
  have mono : ∀ x, ib x ((V 1 0).toNatClampNeg) = true → ib x ((V 1 0).toNatClampNeg + 1) = true := fun x hx => ib_mono hx (Nat.le_succ _)
  obtain ⟨a1, a2, a3, a4, a5, a6, a7, a8, a9, a10, a11, a12, a13, a14, a15, a16, a17, a18, a19, a20, a21, a22, a23, a24, a25, a26, a27, a28, a29, a30, a31, a32, a33, a34⟩ := h
  unfold WF
  rw [en, e1, s2, s3, s4, e0, e0, e0, tla_0, tla_0, tla_0]
  rw [eo 15 (by decide) (by decide) (by decide) (by decide), eo 16 (by decide) (by decide) (by decide) (by decide), eo 17 (by decide) (by decide) (by decide) (by decide), eo 18 (by decide) (by decide) (by decide) (by decide), eo 19 (by decide) (by decide) (by decide) (by decide), eo 20 (by decide) (by decide) (by decide) (by decide), eo 21 (by decide) (by decide) (by decide) (by decide), eo 22 (by decide) (by decide) (by decide) (by decide), eo 23 (by decide) (by decide) (by decide) (by decide), eo 24 (by decide) (by decide) (by decide) (by decide), eo 25 (by decide) (by decide) (by decide) (by decide), eo 26 (by decide) (by decide) (by decide) (by decide), eo 27 (by decide) (by decide) (by decide) (by decide), eo 28 (by decide) (by decide) (by decide) (by decide), eo 29 (by decide) (by decide) (by decide) (by decide), eo 30 (by decide) (by decide) (by decide) (by decide), eo 1000 (by decide) (by decide) (by decide) (by decide)]
  refine ⟨rfl, by omega, a3, a4, a5, a6, a7, a8, fun u hu => ?_, fun s hs => mono _ (a10 s hs), a11, a12, a13, a14, a15, a16, a17, a18, a19, a20, a21, a22, fun y hy => mono _ (a23 y hy), a24, a25, a26, a27, a28, a29, a30, a31, a32, a33, a34⟩
  rw [e12]
  by_cases hu2 : u = (V 1 0).toNatClampNeg
  · rw [if_pos hu2]; exact hp
  · rw [if_neg hu2]; exact a9 u (by omega)
theorem swcong {V W : Sto} {q p i : Nat} {x : Int32} (h : V q = W p) : sw V q i x q = sw W p i x p := swc h rfl
theorem uV_Rel {V M : Sto} (h : RelD V M) (p : Int32) : RelD (uV V p) (uM V M p) := by
  have h' : RelD (tla V) (tld (sw M 0 0 0)) := (h.thr 0).tld
  have eo : ∀ q, q ≠ 1 → q ≠ 12 → q ≠ 13 → uV V p q = tla V q := fun q h1 h2 h3 => by unfold uV; rw [sw_ne h1, sw_ne h3, sw_ne h2]
  have em : ∀ q, q ≠ 0 → q ≠ 1 → uM V M p q = tld (sw M 0 0 0) q := fun q h1 h2 => by unfold uM; rw [sw_ne h1, sw_ne h2]
  have em0 : ∀ j, j ≠ 1 → uM V M p 0 j = tld (sw M 0 0 0) 0 j := fun j hj => by unfold uM; rw [sw_at, if_neg hj, sw_ne (by decide)]
  obtain ⟨a1, a2, a3, a4, a5, a6, a7, a8, a9, a10, a11, a12, a13, a14, a15, a16, a17, a18, a19, a20, a21, a22, a23, a24, a25, a26, a27, a28⟩ := h'
  have e12 : uM V M p 1 = uV V p 12 := by
    have l1 : uM V M p 1 = sw (tld (sw M 0 0 0)) 1 ((V 1 0).toNatClampNeg) p 1 := by unfold uM; rw [sw_ne (show (1 : Nat) ≠ 0 by decide)]
    have l2 : uV V p 12 = sw (tla V) 12 ((V 1 0).toNatClampNeg) p 12 := by unfold uV; rw [sw_ne (show (12 : Nat) ≠ 1 by decide), sw_ne (show (12 : Nat) ≠ 13 by decide)]
    rw [l1, l2]
    exact swcong a10
  have e1 : uM V M p 0 1 = uV V p 1 0 := by unfold uM uV; rw [sw_at, if_pos rfl, sw_at, if_pos rfl]
  unfold RelD
  rw [e1, e12, em0 3 (by decide), em0 10 (by decide), em0 11 (by decide), em0 13 (by decide), em0 20 (by decide), em0 26 (by decide), em0 27 (by decide), em0 28 (by decide), em 2 (by decide) (by decide), em 3 (by decide) (by decide), em 4 (by decide) (by decide), em 5 (by decide) (by decide), em 6 (by decide) (by decide), em 7 (by decide) (by decide), em 8 (by decide) (by decide), em 9 (by decide) (by decide), em 10 (by decide) (by decide), em 11 (by decide) (by decide), em 12 (by decide) (by decide), em 13 (by decide) (by decide), em 14 (by decide) (by decide), em 15 (by decide) (by decide), em 16 (by decide) (by decide), em 17 (by decide) (by decide), em 18 (by decide) (by decide), em 19 (by decide) (by decide)]
  rw [eo 0 (by decide) (by decide) (by decide), eo 2 (by decide) (by decide) (by decide), eo 3 (by decide) (by decide) (by decide), eo 4 (by decide) (by decide) (by decide), eo 14 (by decide) (by decide) (by decide), eo 15 (by decide) (by decide) (by decide), eo 16 (by decide) (by decide) (by decide), eo 17 (by decide) (by decide) (by decide), eo 18 (by decide) (by decide) (by decide), eo 19 (by decide) (by decide) (by decide), eo 20 (by decide) (by decide) (by decide), eo 21 (by decide) (by decide) (by decide), eo 22 (by decide) (by decide) (by decide), eo 23 (by decide) (by decide) (by decide), eo 24 (by decide) (by decide) (by decide), eo 25 (by decide) (by decide) (by decide), eo 26 (by decide) (by decide) (by decide), eo 27 (by decide) (by decide) (by decide), eo 28 (by decide) (by decide) (by decide), eo 29 (by decide) (by decide) (by decide), eo 30 (by decide) (by decide) (by decide), eo 31 (by decide) (by decide) (by decide)]
  exact ⟨rfl, a2, a3, a4, a5, a6, a7, a8, a9, rfl, a11, a12, a13, a14, a15, a16, a17, a18, a19, a20, a21, a22, a23, a24, a25, a26, a27, a28⟩
theorem uV_F (V M : Sto) (p : Int32) : RelF (uV V p) (uM V M p) := by
  have h := tl_F V (sw M 0 0 0)
  have eo : uV V p 0 = tla V 0 := by unfold uV; rw [sw_ne (by decide), sw_ne (by decide), sw_ne (by decide)]
  have em0 : ∀ j, j ≠ 1 → uM V M p 0 j = tld (sw M 0 0 0) 0 j := fun j hj => by unfold uM; rw [sw_at, if_neg hj, sw_ne (by decide)]
  unfold RelF at h ⊢
  rw [eo, em0 29 (by decide), em0 30 (by decide), em0 31 (by decide), em0 32 (by decide)]
  exact h
/-- a told state of I -/
def TI (I : Sto → Sto → Prop) : Prop := (∀ V M, T0 V M → I V M)
theorem op_unit {I : Sto → Sto → Prop} {V M : Sto} (h : WF V) (hr : RelD V M) (hthr : ∀ k, I V (sw M 0 0 k)) (hT : TI I) (p : Int32) : StI I cs_Lw_unit (f_Ly_unit V p) (f_Mo_unit M p) V 0 := by
  have hg : ((-1 : Int32) ≤ p ∧ p ≤ 3) ↔ (p = -1 ∨ ib p 4 = true) := by
    rw [ib_iff, Int32.le_iff_toInt_le, Int32.le_iff_toInt_le]
    have e1 : (-1 : Int32).toInt = -1 := by decide
    have e3 : (3 : Int32).toInt = 3 := by decide
    rw [e1, e3]
    constructor
    · intro hh
      by_cases h0 : p.toInt = -1
      · exact Or.inl (eqI (by rw [h0, e1]))
      · exact Or.inr ⟨by omega, by omega⟩
    · rintro (rfl | hh)
      · decide
      · omega
  have he1 : (p = -1 ∨ ib p 4 = true) → (V 1 0 < 24 → f_Ly_unit V p = some (.inl (V 1 0), uV V p)) ∧ (¬ V 1 0 < 24 → f_Ly_unit V p = some (.inr 3, V)) := by
    intro hp
    have hlt : V 1 0 < 24 → (V 1 0).toNatClampNeg < 24 := fun hh => lt_cnt (n := 24) h.u0 (by decide) hh
    unfold f_Ly_unit
    by_cases h1 : p = -1
    · rw [if_pos h1]
      refine ⟨fun hh => ?_, fun hh => by rw [if_neg hh]⟩
      rw [if_pos hh, tla_eq, cl_mk, add_eq h p (hlt hh), cl_mk]
    · rw [if_neg h1]
      have hib := ib_iff.mp (hp.resolve_left h1)
      have e0 : (0 : Int32).toInt = 0 := by decide
      have e4 : (4 : Int32).toInt = 4 := by decide
      rw [if_neg (fun z => by rw [Int32.lt_iff_toInt_lt, e0] at z; omega), if_pos (by rw [Int32.lt_iff_toInt_lt, e4]; omega)]
      refine ⟨fun hh => ?_, fun hh => by rw [if_neg hh]⟩
      rw [if_pos hh, tla_eq, cl_mk, add_eq h p (hlt hh), cl_mk]
  have he2 : ¬ (p = -1 ∨ ib p 4 = true) → f_Ly_unit V p = some (.inr 0, V) := by
    intro hp
    unfold f_Ly_unit
    rw [if_neg (fun e => hp (Or.inl e))]
    by_cases h0 : p < 0
    · rw [if_pos h0]
    · rw [if_neg h0, if_neg]
      intro h4
      have e0 : (0 : Int32).toInt = 0 := by decide
      have e4 : (4 : Int32).toInt = 4 := by decide
      rw [Int32.lt_iff_toInt_lt, e0] at h0
      rw [Int32.lt_iff_toInt_lt, e4] at h4
      exact hp (Or.inr (ib_iff.mpr ⟨by omega, by omega⟩))
  by_cases hp : p = -1 ∨ ib p 4 = true
  · have hgp := hg.mpr hp
    by_cases hh : V 1 0 < 24
    · have hn : (V 1 0).toNatClampNeg < 24 := lt_cnt (n := 24) h.u0 (by decide) hh
      refine ⟨0, V 1 0, uV V p, V 1 0, uM V M p, Or.inl ⟨(he1 hp).1 hh, rfl⟩, moUnit_eq h hr p hgp hn, ?_, fun _ => rfl, hT _ _ ⟨uV_WF h p hn hp, uV_Rel hr p, uV_F V M p, ?_⟩, ?_⟩
      · unfold uM
        rw [sw_at, if_neg (by decide), sw_ne (by decide), tld_0, sw_at]
        rfl
      · have eo : uV V p 0 = tla V 0 := by unfold uV; rw [sw_ne (by decide), sw_ne (by decide), sw_ne (by decide)]
        rw [eo, tla_0]
        rfl
      · rw [Nat.zero_add, phi_eq (uV_cell V p 1000 (by decide) (by decide) (by decide) (by decide))]
        exact Nat.le_refl _
    · have h24 : M 0 1 = 24 := by
        have h1 := h.u1
        have : ¬ (V 1 0).toNatClampNeg < 24 := fun z => hh (cnt_lt (n := 24) h.u0 (by decide) z)
        have e : (V 1 0).toNatClampNeg = 24 := by omega
        have := h.u0
        rw [e] at this
        rw [hr.u0, this]
        rfl
      refine st_thr ((he1 hp).2 hh) (List.mem_of_getElem? (i := 1) rfl) (by decide) (b := 0) (M := M) ?_ (hthr 2)
      unfold f_Mo_unit
      simp only [within_eq, if_pos hgp, cl_mk, jn_mk, i10, i00, if_false, if_true, h24, refuse_01]
  · have hgp : ¬ ((-1 : Int32) ≤ p ∧ p ≤ 3) := fun z => hp (hg.mp z)
    refine st_thr (he2 hp) (List.mem_of_getElem? (i := 0) rfl) (by decide) (b := 0) (M := M) ?_ (hthr 1)
    unfold f_Mo_unit
    simp only [within_eq, if_neg hgp, cl_mk, jn_mk, i10, i00, if_false, if_true, refuse_10]
