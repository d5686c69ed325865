/-! word; what is asked of a place. -/
/-- a place of a section that holds words -/
def isPl (V : Sto) (p q : Int32) : Bool := ib p ((V 2 0).toNatClampNeg) && (!(decide (V 16 (p.toNatClampNeg) = 2)) && (ib q ((V 17 (p.toNatClampNeg)).toNatClampNeg) && decide (q.toNatClampNeg % 4 = 0)))
theorem mod4 {q : Int32} (h : 0 ≤ q.toInt) : (q - q / 4 * 4 = 0) ↔ q.toNatClampNeg % 4 = 0 := by
  have e4 : (4 : Int32).toInt = 4 := by decide
  have e0 : (0 : Int32).toInt = 0 := by decide
  have hb := bdI q
  have hd : (q / 4).toInt = q.toInt / 4 := by
    rw [Int32.toInt_div_of_ne_right _ _ (by decide), e4, Int.tdiv_eq_ediv_of_nonneg h]
  have hc := clI h
  have hm : (q / 4 * 4).toInt = q.toInt / 4 * 4 := by rw [mulI (by rw [hd, e4]; omega) (by rw [hd, e4]; omega), hd, e4]
  have hs : (q - q / 4 * 4).toInt = q.toInt - q.toInt / 4 * 4 := by rw [subI (by rw [hm]; omega) (by rw [hm]; omega), hm]
  constructor
  · intro e
    have := congrArg Int32.toInt e
    rw [hs, e0] at this
    show q.toNatClampNeg % 4 = 0
    omega
  · intro e
    refine eqI ?_
    rw [hs, e0]
    have : q.toNatClampNeg % 4 = 0 := e
    omega
theorem hasWord_tail {V : Sto} {x z : Int32} {n : Nat} (hz : z = nI n) (hn : n < 100000) : (if x < 0 then (some (0, V) : RT) else if z ≤ x then some (0, V) else if x - x / 4 * 4 = 0 then some (1, V) else some (0, V)) = some (if (ib x n && decide (x.toNatClampNeg % 4 = 0)) = true then 1 else 0, V) := by
  have e0 : (0 : Int32).toInt = 0 := by decide
  have en := nI_toInt (n := n) (by omega)
  by_cases h0 : x < 0
  · rw [if_pos h0, if_neg]
    rw [Int32.lt_iff_toInt_lt, e0] at h0
    intro hh
    rw [Bool.and_eq_true, ib_iff] at hh
    omega
  · rw [if_neg h0]
    rw [Int32.lt_iff_toInt_lt, e0] at h0
    by_cases h1 : z ≤ x
    · rw [if_pos h1, if_neg]
      rw [hz, Int32.le_iff_toInt_le, en] at h1
      intro hh
      rw [Bool.and_eq_true, ib_iff] at hh
      omega
    · rw [if_neg h1]
      rw [hz, Int32.le_iff_toInt_le, en] at h1
      have hib : ib x n = true := ib_iff.mpr ⟨by omega, by omega⟩
      rw [hib, Bool.true_and]
      by_cases h2 : x.toNatClampNeg % 4 = 0
      · rw [if_pos ((mod4 (by omega)).mpr h2), if_pos (by rw [decide_eq_true_eq]; exact h2)]
      · rw [if_neg (fun e => h2 ((mod4 (by omega)).mp e)), if_neg (by rw [decide_eq_true_eq]; exact h2)]
theorem sz_nI {V : Sto} (h : WF V) {s : Nat} (hs : s < (V 2 0).toNatClampNeg) : V 17 s = nI ((V 17 s).toNatClampNeg) ∧ (V 17 s).toNatClampNeg < 100000 := ⟨ib_eq (h.sz s hs).1, by have := ib_lt (h.sz s hs).1; show (V 17 s).toNatClampNeg < _; omega⟩
theorem hasWord_eq {V : Sto} (h : WF V) (p q : Int32) : f_Se_hasWord V p q = some (if isPl V p q = true then 1 else 0, V) := by
  unfold f_Se_hasWord isPl
  rw [seHas_eq h, cl_mk]
  by_cases hp : ib p ((V 2 0).toNatClampNeg) = true
  · rw [if_pos hp, if_neg (by decide), ib_mono hp h.s1, ck_mk]
    by_cases hk : V 16 p.toNatClampNeg = 2
    · rw [if_pos hk]
      simp [hp, ct, hk]
    · rw [if_neg hk, ck_mk]
      have hs := sz_nI h (ib_lt hp)
      rw [hasWord_tail hs.1 hs.2, hp]
      simp [ct, hk]
  · rw [if_neg hp, if_pos rfl]
    simp [hp]
theorem isPlace_eq {V M : Sto} (h : WF V) (hr : RelD V M) (p q : Int32) : f_Mo_isPlace M p q = some (if isPl V p q = true then 1 else 0, M) := by
  unfold f_Mo_isPlace isPl
  rw [moHas_eq M (hr.s0.trans h.s0) (Nat.le_trans h.s1 (by decide)) p, cl_mk]
  by_cases hp : ib p ((V 2 0).toNatClampNeg) = true
  · rw [if_pos hp, if_neg (by decide), ib_mono hp h.s1, ck_mk, hr.sk, hr.sz]
    by_cases hk : V 16 p.toNatClampNeg = 2
    · rw [if_pos hk]
      simp [hp, ct, hk]
    · rw [if_neg hk, ck_mk]
      have hs := sz_nI h (ib_lt hp)
      rw [hasWord_tail hs.1 hs.2, hp]
      simp [ct, hk]
  · rw [if_neg hp, if_pos rfl]
    simp [hp]
theorem isPl_s {V : Sto} {p q : Int32} (h : isPl V p q = true) : ib p ((V 2 0).toNatClampNeg) = true ∧ V 16 (p.toNatClampNeg) ≠ 2 ∧ ib q ((V 17 (p.toNatClampNeg)).toNatClampNeg) = true ∧ q.toNatClampNeg % 4 = 0 := by
  unfold isPl at h
  simpa using h
/-- where the word of a place stands -/
def wix (V : Sto) (s q : Nat) : Nat := (V 19 s).toNatClampNeg + q / 4
theorem div4 {q : Int32} (h : 0 ≤ q.toInt) : q / 4 = nI (q.toNatClampNeg / 4) := by
  have e4 : (4 : Int32).toInt = 4 := by decide
  have hb := bdI q
  have hc := clI h
  refine eqI ?_
  rw [Int32.toInt_div_of_ne_right _ _ (by decide), e4, Int.tdiv_eq_ediv_of_nonneg h, nI_toInt (by show q.toNatClampNeg / 4 < _; omega)]
  show _ = ((q.toNatClampNeg / 4 : Nat) : Int)
  omega
theorem wix_eq {V : Sto} (h : WF V) {s : Nat} (hs : s < (V 2 0).toNatClampNeg) {q : Int32} (hq : ib q 100000 = true) : V 19 s + q / 4 = nI (wix V s (q.toNatClampNeg)) := by
  have h1 := (h.fw s hs).1
  have h2 := ib_lt h1
  have h3 := ib_lt hq
  rw [div4 (ib_iff.mp hq).1]
  have e := nI_add (V 19 s).toNatClampNeg (q.toNatClampNeg / 4)
  rw [← ib_eq h1] at e
  exact e
theorem wix_lt {V : Sto} (h : WF V) {s q : Nat} (hs : s < (V 2 0).toNatClampNeg) (hk : V 16 s ≠ 2) (hq : q < (V 17 s).toNatClampNeg) (h4 : q % 4 = 0) : wix V s q < (V 2 2).toNatClampNeg := by
  have h1 := (h.fw s hs).2 hk
  have h2 := (h.sz s hs).2
  unfold wix
  omega
theorem op_word {I : Sto → Sto → Prop} {V M : Sto} (h : WF V) (hr : RelD V M) (hthr : ∀ k, I V (sw M 0 0 k)) (hT : TI I) (p q v : Int32) : StV I cs_Lw_word (f_Ly_word V p q v) (f_Mo_word M p q v) V := by
  by_cases hp : isPl V p q = true
  · obtain ⟨h1, h2, h3, h4⟩ := isPl_s hp
    have hs : p.toNatClampNeg < (V 2 0).toNatClampNeg := ib_lt h1
    have hb : ib p 96 = true := ib_mono h1 h.s1
    have hq : ib q 100000 = true := ib_mono h3 (by have := (sz_nI h hs).2; omega)
    have hw := wix_eq h hs hq
    have hl := wix_lt h hs h2 (ib_lt h3) h4
    have ht := h.t1
    have hl1 := h.l1
    have e19 : tla V 19 = V 19 := tla_o V (by decide)
    have hlt : wix V (p.toNatClampNeg) (q.toNatClampNeg) < 2 ^ 31 := by omega
    refine ⟨0, 0, wV V (wix V (p.toNatClampNeg) (q.toNatClampNeg)) v, 0, wM M (wix V (p.toNatClampNeg) (q.toNatClampNeg)) v, Or.inl ⟨?_, rfl⟩, ?_, ?_, trivial, hT _ _ ⟨wV_WF _ v h, wV_Rel _ v hr, wV_F V M _ v, ?_⟩, ?_⟩
    · unfold f_Ly_word f_Se_write
      rw [hasWord_eq h, if_pos hp, cl_mk, if_neg (by decide), tla_eq, cl_mk, hb, ck_mk, tla_o V (show (19 : Nat) ≠ 0 by decide), tla_o V (show (1000 : Nat) ≠ 0 by decide)]
      show cl (ck (ib (V 19 (p.toNatClampNeg) + q / 4) _) _) _ = _
      rw [hw, ib_nI (by show _ < (V 1000 14).toNatClampNeg; have : (V 2 2).toNatClampNeg ≤ (V 1000 14).toNatClampNeg := ht.1; omega) (by have : (V 1000 14).toNatClampNeg ≤ 100000 := hl1.2; omega), ck_mk, nm_mk]
      rw [nI_clamp hlt, cl_mk]
      rfl
    · unfold f_Mo_word
      simp only [isPlace_eq h hr, if_pos hp, cl_mk, jn_mk, i10, if_false, refuse_00, i00, if_true, tld_eq, hb, ck_mk]
      have e6 : tld (sw M 0 0 0) 6 = V 19 := by rw [tld_o _ (by decide), sw_ne (by decide)]; exact hr.fw
      rw [e6]
      show ck (ib (V 19 (p.toNatClampNeg) + q / 4) _) _ = _
      rw [hw, ib_nI (by have : (V 2 2).toNatClampNeg ≤ (V 1000 14).toNatClampNeg := ht.1; omega) (by decide), ck_mk, nm_mk]
      rw [nI_clamp hlt]
      rfl
    · simp (disch := decide) [wM, sw_at, sw_ne, tld_0]
    · simp (disch := decide) [wV, sw_at, sw_ne, tla_0]
    · rw [Nat.zero_add, phi_eq (show wV V (wix V (p.toNatClampNeg) (q.toNatClampNeg)) v 1000 = V 1000 by simp (disch := decide) [wV, sw_ne, tla_o])]
      exact Nat.le_refl _
  · refine sv_thr (e := 0) (k := 1) ?_ (List.mem_of_getElem? (i := 0) rfl) (by decide) (b := 0) (M := M) ?_ (hthr 1)
    · unfold f_Ly_word
      rw [hasWord_eq h, if_neg hp, cl_mk, if_pos rfl]
    · unfold f_Mo_word
      simp only [isPlace_eq h hr, if_neg hp, cl_mk, jn_mk, i00, if_true, refuse_10, i10, if_false]
