/-! symbol, other, relocation. -/
theorem ib3 {p : Int32} : (¬ p < 0 ∧ p ≤ 2) ↔ ib p 3 = true := by
  have e0 : (0 : Int32).toInt = 0 := by decide
  have e2 : (2 : Int32).toInt = 2 := by decide
  rw [ib_iff, Int32.lt_iff_toInt_lt, Int32.le_iff_toInt_le, e0, e2]
  omega
theorem ib3' {p : Int32} : ((0 : Int32) ≤ p ∧ p ≤ 2) ↔ ib p 3 = true := by
  have e0 : (0 : Int32).toInt = 0 := by decide
  have e2 : (2 : Int32).toInt = 2 := by decide
  rw [ib_iff, Int32.le_iff_toInt_le, Int32.le_iff_toInt_le, e0, e2]
  omega
theorem ib200' {p : Int32} : ((0 : Int32) ≤ p ∧ p ≤ 199) ↔ ib p 200 = true := by
  have e0 : (0 : Int32).toInt = 0 := by decide
  have e2 : (199 : Int32).toInt = 199 := by decide
  rw [ib_iff, Int32.le_iff_toInt_le, Int32.le_iff_toInt_le, e0, e2]
  omega
theorem ib6' {p : Int32} : ((0 : Int32) ≤ p ∧ p ≤ 5) ↔ ib p 6 = true := by
  have e0 : (0 : Int32).toInt = 0 := by decide
  have e2 : (5 : Int32).toInt = 5 := by decide
  rw [ib_iff, Int32.le_iff_toInt_le, Int32.le_iff_toInt_le, e0, e2]
  omega
theorem ib_pos {p : Int32} {n : Nat} (h : ib p n = true) : ¬ p < 0 := by
  have e0 : (0 : Int32).toInt = 0 := by decide
  rw [ib_iff] at h
  rw [Int32.lt_iff_toInt_lt, e0]
  omega
theorem ib_le {x : Int32} {n : Nat} (h : x = nI x.toNatClampNeg) {p : Int32} (hp : ib p (x.toNatClampNeg) = true) (hn : x.toNatClampNeg = n) : ¬ x ≤ p := by
  rw [ib_iff] at hp
  have := nI_toInt (ct_lt x)
  rw [← h] at this
  rw [Int32.le_iff_toInt_le]
  omega
theorem full400 {V : Sto} (h : WF V) (hh : ¬ V 3 0 < 400) : V 3 0 = 400 := by
  have h1 := h.y1
  have : ¬ (V 3 0).toNatClampNeg < 400 := fun z => hh (cnt_lt (n := 400) h.y0 (by decide) z)
  have e : (V 3 0).toNatClampNeg = 400 := by omega
  have := h.y0
  rw [e] at this
  rw [this]
  rfl
theorem not400 {V : Sto} (hh : (V 3 0).toNatClampNeg < 400) : ¬ V 3 0 = 400 := fun e => by
  rw [e] at hh
  exact absurd hh (by decide)
/-- what symbol asks -/
def goodY (V : Sto) (p1 p2 p3 p4 : Int32) : Bool := ib p1 ((V 2 0).toNatClampNeg) && (decide ((0 : Int32) ≤ p2 ∧ p2 ≤ V 17 (p1.toNatClampNeg)) && (ib p3 200 && (ib p4 3 && !(!decide (p4 = 0) && clB V (V 15 (p1.toNatClampNeg)) p3))))
theorem symbol_C {V : Sto} (h : WF V) (p1 p2 p3 p4 : Int32) : f_Ly_symbol V p1 p2 p3 p4 = if goodY V p1 p2 p3 p4 = true then (if V 3 0 < 400 then some (.inl (V 3 0), yV V (V 15 (p1.toNatClampNeg)) p3 p4 1 p1 p2) else some (.inr 3, V)) else some (.inr 0, V) := by
  unfold f_Ly_symbol goodY
  rw [seHas_eq h, cl_mk]
  by_cases g1 : ib p1 ((V 2 0).toNatClampNeg) = true
  · rw [if_pos g1, if_neg (by decide), g1, Bool.true_and]
    by_cases g2 : (0 : Int32) ≤ p2 ∧ p2 ≤ V 17 (p1.toNatClampNeg)
    · rw [if_neg (Int32.not_lt.mpr g2.1), ib_mono g1 h.s1, ck_mk, if_pos g2.2, isName_eq, cl_mk, decide_eq_true g2, Bool.true_and]
      by_cases g3 : ib p3 200 = true
      · rw [if_pos g3, if_neg (by decide), g3, Bool.true_and]
        by_cases g4 : ib p4 3 = true
        · rw [if_neg (ib3.mpr g4).1, if_pos (ib3.mpr g4).2, ck_mk, clashes_eq h, cl_mk, g4, Bool.true_and]
          by_cases g5 : (!decide (p4 = 0) && clB V (V 15 (p1.toNatClampNeg)) p3) = true
          · rw [if_pos g5, if_neg (by decide), g5, if_neg (by decide)]
          · rw [if_neg g5, if_pos rfl, Bool.eq_false_iff.mpr g5, if_pos (show (!false) = true from rfl)]
            by_cases g6 : V 3 0 < 400
            · rw [if_pos g6, if_pos g6, tla_eq, cl_mk, symC_eq h (lt_cnt (n := 400) h.y0 (by decide) g6)]
            · rw [if_neg g6, if_neg g6]
        · rw [Bool.eq_false_iff.mpr g4, Bool.false_and, if_neg (show ¬ false = true by decide)]
          by_cases g : p4 < 0
          · rw [if_pos g]
          · rw [if_neg g, if_neg (fun z => g4 (ib3.mp ⟨g, z⟩))]
      · rw [if_neg g3, if_pos rfl, Bool.eq_false_iff.mpr g3, Bool.false_and, if_neg (by decide)]
    · rw [decide_eq_false g2, Bool.false_and, if_neg (show ¬ false = true by decide)]
      by_cases g : p2 < 0
      · rw [if_pos g]
      · rw [if_neg g, ib_mono g1 h.s1, ck_mk, if_neg (fun z => g2 ⟨Int32.not_lt.mp g, z⟩)]
  · rw [if_neg g1, if_pos rfl, Bool.eq_false_iff.mpr g1, Bool.false_and, if_neg (by decide)]
theorem newSym_cl (x : RT) : (cl x fun r V => (some (r, V) : RT)) = x := by
  cases x with
  | none => rfl
  | some q => rfl
theorem symbol_M {V M : Sto} (h : WF V) (hr : RelD V M) (p1 p2 p3 p4 : Int32) : f_Mo_symbol M p1 p2 p3 p4 = if goodY V p1 p2 p3 p4 = true then (if V 3 0 = 400 then some (0, sw M 0 0 2) else f_Mo_newSymbol (sw M 0 0 0) (V 15 (p1.toNatClampNeg)) 0 p1 p2 p3 p4) else some (0, sw M 0 0 1) := by
  unfold f_Mo_symbol goodY
  rw [moHas_eq M (hr.s0.trans h.s0) (Nat.le_trans h.s1 (by decide)) p1, cl_mk]
  by_cases g1 : ib p1 ((V 2 0).toNatClampNeg) = true
  · have hb96 := ib_mono g1 h.s1
    have gle : ¬ M 0 3 ≤ p1 := by
      rw [hr.s0]
      exact ib_le h.s0 g1 rfl
    rw [g1, Bool.true_and]
    simp only [jn_mk, if_true, i10, if_false, ib_pos g1, gle, hb96, ck_mk, within_eq, cl_mk, hr.sz]
    by_cases g2 : (0 : Int32) ≤ p2 ∧ p2 ≤ V 17 (p1.toNatClampNeg)
    · rw [if_pos g2, decide_eq_true g2, Bool.true_and, if_neg (show ¬ (1 : Int32) = 0 by decide)]
      by_cases g3 : ib p3 200 = true
      · rw [if_pos (ib200'.mpr g3), g3, Bool.true_and, if_neg (show ¬ (1 : Int32) = 0 by decide)]
        by_cases g4 : ib p4 3 = true
        · rw [if_pos (ib3'.mpr g4), g4, Bool.true_and, if_neg (show ¬ (1 : Int32) = 0 by decide)]
          simp only [hasName_eq h hr, cl_mk, hr.su]
          by_cases g5 : (!decide (p4 = 0) && clB V (V 15 (p1.toNatClampNeg)) p3) = true
          · rw [if_pos g5, if_neg (show ¬ (1 : Int32) = 0 by decide), g5, if_neg (show ¬ (!true) = true by decide)]
            simp only [refuse_10, cl_mk, i10, i00, if_false, if_true]
          · rw [if_neg g5, if_pos rfl, Bool.eq_false_iff.mpr g5, if_pos (show (!false) = true from rfl)]
            by_cases g6 : V 3 0 = 400
            · rw [hr.y0, if_pos g6, if_pos g6]
              simp only [refuse_01, cl_mk, i10, if_false]
            · rw [hr.y0, if_neg g6, if_neg g6]
              have e2 : sw M 0 0 0 2 = V 15 := by rw [sw_ne (by decide)]; exact hr.su
              simp only [refuse_00, cl_mk, i00, if_true, e2]
              rw [newSym_cl]
        · rw [if_neg (fun z => g4 (ib3'.mp z)), Bool.eq_false_iff.mpr g4, Bool.false_and, if_pos rfl, if_neg (show ¬ false = true by decide)]
          simp only [refuse_10, cl_mk, i10, i00, if_false, if_true]
      · rw [if_neg (fun z => g3 (ib200'.mp z)), Bool.eq_false_iff.mpr g3, Bool.false_and, if_pos rfl, if_neg (show ¬ false = true by decide)]
        simp only [refuse_10, cl_mk, i10, i00, if_false, if_true]
    · rw [if_neg g2, decide_eq_false g2, Bool.false_and, if_pos rfl, if_neg (show ¬ false = true by decide)]
      simp only [refuse_10, cl_mk, i10, i00, if_false, if_true]
  · rw [if_neg g1, Bool.eq_false_iff.mpr g1, Bool.false_and, if_neg (show ¬ false = true by decide)]
    simp only [jn_mk, i00, if_true, refuse_10, cl_mk, i10, if_false]
theorem op_symbol {I : Sto → Sto → Prop} {V M : Sto} (h : WF V) (hr : RelD V M) (hthr : ∀ k, I V (sw M 0 0 k)) (hT : TI I) (p1 p2 p3 p4 : Int32) : StI I cs_Lw_symbol (f_Ly_symbol V p1 p2 p3 p4) (f_Mo_symbol M p1 p2 p3 p4) V 0 := by
  rw [symbol_C h, symbol_M h hr]
  by_cases g : goodY V p1 p2 p3 p4 = true
  · rw [if_pos g, if_pos g]
    unfold goodY at g
    simp only [Bool.and_eq_true, decide_eq_true_eq, Bool.not_eq_true', Bool.and_eq_false_iff] at g
    obtain ⟨g1, g2, g3, g4, g5⟩ := g
    have hs : p1.toNatClampNeg < (V 2 0).toNatClampNeg := ib_lt g1
    by_cases g6 : V 3 0 < 400
    · have hn := lt_cnt (n := 400) h.y0 (by decide) g6
      rw [if_pos g6, if_neg (not400 hn), newSym_eq h hr hn]
      refine ⟨0, V 3 0, _, V 3 0, _, Or.inl ⟨rfl, rfl⟩, rfl, ?_, fun _ => rfl, hT _ _ ⟨yV_WF _ p3 p4 1 p1 p2 h hn (h.su _ hs) g3 (ib_mono g4 (by decide)) (Or.inr (Or.inl ⟨rfl, ?_, g1, rfl⟩)) ?_, yV_Rel _ p3 p4 1 p1 p2 hr hn, yV_F V M _ _ _ _ _ _ _, ?_⟩, ?_⟩
      · simp (disch := decide) [yM, sw_at, sw_ne, tld_0]
      · intro e
        rw [e] at g4
        exact absurd g4 (by decide)
      · intro y hy e1 e2 e3
        rcases g5 with g5 | g5
        · exact of_decide_eq_true (by simpa using g5)
        · exfalso
          have : clB V (V 15 (p1.toNatClampNeg)) p3 = true := any_range.mpr ⟨y, hy, by simp [clP, e1, e2, e3]⟩
          rw [this] at g5
          cases g5
      · simp (disch := decide) [yV, sw_at, sw_ne, tla_0]
      · rw [Nat.zero_add, phi_eq (show yV V (V 15 (p1.toNatClampNeg)) p3 p4 1 p1 p2 1000 = V 1000 from yV_o (by decide) (by decide) (by decide) (by decide) (by decide) (by decide) (by decide) (by decide))]
        exact Nat.le_refl _
    · rw [if_neg g6, if_pos (full400 h g6)]
      exact st_thr rfl (List.mem_of_getElem? (i := 1) rfl) (by decide) rfl (hthr 2)
  · rw [if_neg g, if_neg g]
    exact st_thr rfl (List.mem_of_getElem? (i := 0) rfl) (by decide) rfl (hthr 1)
/-- what other asks of its sort -/
def goodO (p2 p3 p5 : Int32) : Bool := (decide (p2 = 0) && (decide (p5 = 1) || decide (p5 = 2))) || ((decide (p2 = 1) && ib p5 3) || (decide (p2 = 2) && (decide (p5 = 3) && (ib p3 8193 && (decide (4 ≤ p3.toNatClampNeg) && decide (p3.toNatClampNeg % 4 = 0))))))
theorem isSize_eq (V : Sto) (p : Int32) (n : Nat) (hn : n ≤ 4) : f_Ly_isSize V p (nI n) = some (if (ib p 8193 && (decide (n ≤ p.toNatClampNeg) && decide (p.toNatClampNeg % 4 = 0))) = true then 1 else 0, V) := by
  have e1 : (8192 : Int32).toInt = 8192 := by decide
  have en := nI_toInt (n := n) (by omega)
  unfold f_Ly_isSize
  by_cases h1 : p < nI n
  · rw [if_pos h1, if_neg]
    rw [Int32.lt_iff_toInt_lt, en] at h1
    intro hh
    simp only [Bool.and_eq_true, decide_eq_true_eq, ib_iff] at hh
    have := clI hh.1.1
    omega
  · rw [if_neg h1]
    rw [Int32.lt_iff_toInt_lt, en] at h1
    have hc := clI (x := p) (by omega)
    by_cases h2 : 8192 < p
    · rw [if_pos h2, if_neg]
      rw [Int32.lt_iff_toInt_lt, e1] at h2
      intro hh
      simp only [Bool.and_eq_true, decide_eq_true_eq, ib_iff] at hh
      omega
    · rw [if_neg h2]
      rw [Int32.lt_iff_toInt_lt, e1] at h2
      have hib : ib p 8193 = true := ib_iff.mpr ⟨by omega, by omega⟩
      have hle : n ≤ p.toNatClampNeg := by omega
      rw [hib, decide_eq_true hle, Bool.true_and, Bool.true_and]
      by_cases h3 : p.toNatClampNeg % 4 = 0
      · rw [if_pos ((mod4 (by omega)).mpr h3), if_pos (decide_eq_true h3)]
      · rw [if_neg (fun z => h3 ((mod4 (by omega)).mp z)), if_neg (fun z => h3 (of_decide_eq_true z))]
theorem isOther_eq (V : Sto) (p2 p3 p5 : Int32) : f_Ly_isOther V p2 p3 p5 = some (if goodO p2 p3 p5 = true then 1 else 0, V) := by
  unfold f_Ly_isOther goodO
  by_cases h0 : p2 = 0
  · subst h0
    rw [if_pos rfl]
    by_cases a : p5 = 1
    · simp [a]
    · by_cases b : p5 = 2
      · simp [a, b]
      · simp [a, b]
  · rw [if_neg h0]
    by_cases h1 : p2 = 1
    · subst h1
      rw [if_pos rfl]
      by_cases a : ib p5 3 = true
      · rw [if_neg (ib3.mpr a).1, if_neg (Int32.not_lt.mpr (ib3.mpr a).2)]
        simp [a]
      · by_cases b : p5 < 0
        · rw [if_pos b]
          simp [a]
        · have c : (2 : Int32) < p5 := Int32.not_le.mp (fun z => a (ib3.mp ⟨b, z⟩))
          rw [if_neg b, if_pos c]
          simp [a]
    · rw [if_neg h1]
      by_cases h2 : p2 = 2
      · subst h2
        rw [if_pos rfl]
        by_cases a : p5 = 3
        · rw [if_pos a]
          have e := isSize_eq V p3 4 (by decide)
          rw [show nI 4 = (4 : Int32) from rfl] at e
          rw [e, cl_mk]
          by_cases b : (ib p3 8193 && (decide (4 ≤ p3.toNatClampNeg) && decide (p3.toNatClampNeg % 4 = 0))) = true
          · rw [if_pos b, if_neg (by decide), if_pos]
            rw [a, b]
            rfl
          · rw [if_neg b, if_pos rfl, if_neg]
            rw [a, Bool.eq_false_iff.mpr b]
            decide
        · rw [if_neg a]
          simp [a]
      · rw [if_neg h2]
        simp [h0, h1, h2]
def frm (p2 : Int32) : Int32 := if p2 = 1 then 2 else if p2 = 2 then 3 else 0
theorem form_eq (V : Sto) (p2 : Int32) : f_Ly_formOfOther V p2 = some (frm p2, V) := by
  unfold f_Ly_formOfOther frm
  by_cases h1 : p2 = 1
  · rw [if_pos h1, if_pos h1]
  · rw [if_neg h1, if_neg h1]
    by_cases h2 : p2 = 2
    · rw [if_pos h2, if_pos h2]
    · rw [if_neg h2, if_neg h2]
def goodX (V : Sto) (p1 p2 p3 p4 p5 : Int32) : Bool := ib p1 ((V 1 0).toNatClampNeg) && (goodO p2 p3 p5 && (ib p4 200 && !(!decide (p5 = 0) && clB V p1 p4)))
theorem other_C {V : Sto} (h : WF V) (p1 p2 p3 p4 p5 : Int32) : f_Ly_other V p1 p2 p3 p4 p5 = if goodX V p1 p2 p3 p4 p5 = true then (if V 3 0 < 400 then some (.inl (V 3 0), yV V p1 p4 p5 (frm p2) (-1) p3) else some (.inr 3, V)) else some (.inr 0, V) := by
  unfold f_Ly_other goodX
  rw [unHas_eq h, cl_mk]
  by_cases g1 : ib p1 ((V 1 0).toNatClampNeg) = true
  · rw [if_pos g1, if_neg (by decide), isOther_eq, cl_mk, g1, Bool.true_and]
    by_cases g2 : goodO p2 p3 p5 = true
    · rw [if_pos g2, if_neg (by decide), isName_eq, cl_mk, g2, Bool.true_and]
      by_cases g3 : ib p4 200 = true
      · rw [if_pos g3, if_neg (by decide), clashes_eq h, cl_mk, g3, Bool.true_and]
        by_cases g5 : (!decide (p5 = 0) && clB V p1 p4) = true
        · rw [if_pos g5, if_neg (by decide), g5, if_neg (show ¬ (!true) = true by decide)]
        · rw [if_neg g5, if_pos rfl, Bool.eq_false_iff.mpr g5, if_pos (show (!false) = true from rfl)]
          by_cases g6 : V 3 0 < 400
          · rw [if_pos g6, if_pos g6, tla_eq, cl_mk, ← symC_eq h (lt_cnt (n := 400) h.y0 (by decide) g6)]
            simp only [form_eq, cl_mk]
          · rw [if_neg g6, if_neg g6]
      · rw [if_neg g3, if_pos rfl, Bool.eq_false_iff.mpr g3, Bool.false_and, if_neg (show ¬ false = true by decide)]
    · rw [if_neg g2, if_pos rfl, Bool.eq_false_iff.mpr g2, Bool.false_and, if_neg (show ¬ false = true by decide)]
  · rw [if_neg g1, if_pos rfl, Bool.eq_false_iff.mpr g1, Bool.false_and, if_neg (show ¬ false = true by decide)]
theorem other_M {V M : Sto} (h : WF V) (hr : RelD V M) (p1 p2 p3 p4 p5 : Int32) : f_Mo_other M p1 p2 p3 p4 p5 = if goodX V p1 p2 p3 p4 p5 = true then (if V 3 0 = 400 then some (0, sw M 0 0 2) else f_Mo_newSymbol (sw M 0 0 0) p1 (srt (frm p2)) (-1) p3 p4 p5) else some (0, sw M 0 0 1) := by
  have hsz : ∀ x : Int32, ((4 : Int32) ≤ x ∧ x ≤ 8192) ↔ (ib x 8193 = true ∧ 4 ≤ x.toNatClampNeg) := by
    intro x
    have e4 : (4 : Int32).toInt = 4 := by decide
    have e1 : (8192 : Int32).toInt = 8192 := by decide
    rw [ib_iff, Int32.le_iff_toInt_le, Int32.le_iff_toInt_le, e4, e1]
    constructor
    · intro hh
      have := clI (x := x) (by omega)
      omega
    · intro hh
      have := clI hh.1.1
      omega
  have h12 : ∀ x : Int32, ((1 : Int32) ≤ x ∧ x ≤ 2) ↔ (x = 1 ∨ x = 2) := by
    intro x
    have e4 : (1 : Int32).toInt = 1 := by decide
    have e1 : (2 : Int32).toInt = 2 := by decide
    rw [Int32.le_iff_toInt_le, Int32.le_iff_toInt_le, e4, e1]
    constructor
    · intro hh
      by_cases e : x.toInt = 1
      · exact Or.inl (eqI (by rw [e, e4]))
      · exact Or.inr (eqI (by rw [e1]; omega))
    · rintro (rfl | rfl) <;> decide
  have h012 : ∀ x : Int32, ((0 : Int32) ≤ x ∧ x ≤ 2) ↔ (x = 0 ∨ x = 1 ∨ x = 2) := by
    intro x
    have e0 : (0 : Int32).toInt = 0 := by decide
    have e4 : (1 : Int32).toInt = 1 := by decide
    have e1 : (2 : Int32).toInt = 2 := by decide
    rw [Int32.le_iff_toInt_le, Int32.le_iff_toInt_le, e0, e1]
    constructor
    · intro hh
      by_cases e : x.toInt = 0
      · exact Or.inl (eqI (by rw [e, e0]))
      · by_cases e' : x.toInt = 1
        · exact Or.inr (Or.inl (eqI (by rw [e', e4])))
        · exact Or.inr (Or.inr (eqI (by rw [e1]; omega)))
    · rintro (rfl | rfl | rfl) <;> decide
  have i20 : ((2 : Int32) = 0) = False := by simp
  have i21 : ((2 : Int32) = 1) = False := by simp
  -- the last steps, by what was found good
  have tail : ∀ g : Bool, g = (ib p1 ((V 1 0).toNatClampNeg) && (goodO p2 p3 p5 && ib p4 200)) → (g = true → p2 = 0 ∨ p2 = 1 ∨ p2 = 2) →
      (∀ z2 : Int32, z2 = (if g = true then 1 else 0) →
        (jn (fun (z3 : Int32) (V10 : Sto) => jn (fun (z4 : Int32) => jn (fun (z5 : Int32) => cl (f_Mo_refuse V10 z4 z5) fun r8 V11 => if r8 = 0 then (if p2 = 0 then cl (f_Mo_newSymbol V11 p1 1 (-1) p3 p4 p5) fun r11 V14 => some (r11, V14) else if p2 = 1 then cl (f_Mo_newSymbol V11 p1 2 (-1) p3 p4 p5) fun r10 V13 => some (r10, V13) else cl (f_Mo_newSymbol V11 p1 3 (-1) p3 p4 p5) fun r9 V12 => some (r9, V12)) else (some (0, V11) : RT)) fun j5 => if z3 = 0 then j5 0 else if (V10 0 13) = 400 then j5 1 else j5 0) fun j4 => if z3 = 0 then j4 1 else j4 0) fun j3 => if z2 = 0 then j3 0 M else cl (f_Mo_hasName M p1 p4 p5) fun r7 V9 => if r7 = 0 then j3 1 V9 else j3 0 V9) = if (g && !(!decide (p5 = 0) && clB V p1 p4)) = true then (if V 3 0 = 400 then some (0, sw M 0 0 2) else f_Mo_newSymbol (sw M 0 0 0) p1 (srt (frm p2)) (-1) p3 p4 p5) else some (0, sw M 0 0 1)) := by
    intro g _ hp2 z2 hz
    cases g with
    | false =>
      rw [if_neg (by decide)] at hz
      subst hz
      simp only [jn_mk, i00, if_true, refuse_10, cl_mk, i10, if_false, Bool.false_and]
      rw [if_neg (show ¬ false = true by decide)]
    | true =>
      rw [if_pos rfl] at hz
      subst hz
      simp only [jn_mk, i10, if_false, hasName_eq h hr, cl_mk, Bool.true_and]
      by_cases g5 : (!decide (p5 = 0) && clB V p1 p4) = true
      · rw [if_pos g5, if_neg (show ¬ (1 : Int32) = 0 by decide), g5, if_neg (show ¬ (!true) = true by decide)]
        simp only [refuse_10, cl_mk, i10, i00, if_false, if_true]
      · rw [if_neg g5, if_pos rfl, Bool.eq_false_iff.mpr g5, if_pos (show (!false) = true from rfl)]
        by_cases g6 : V 3 0 = 400
        · rw [hr.y0, if_pos g6, if_pos g6]
          simp only [refuse_01, cl_mk, i10, if_false]
        · rw [hr.y0, if_neg g6, if_neg g6]
          simp only [refuse_00, cl_mk, i00, if_true, newSym_cl]
          rcases hp2 rfl with rfl | rfl | rfl
          · rw [if_pos rfl]; rfl
          · rw [if_neg (by decide), if_pos rfl]; rfl
          · rw [if_neg (by decide), if_neg (by decide)]; rfl
  unfold f_Mo_other goodX
  rw [moHas_eq M (hr.u0.trans h.u0) (Nat.le_trans h.u1 (by decide)) p1, cl_mk]
  rw [show (ib p1 ((V 1 0).toNatClampNeg) && (goodO p2 p3 p5 && (ib p4 200 && !(!decide (p5 = 0) && clB V p1 p4)))) = ((ib p1 ((V 1 0).toNatClampNeg) && (goodO p2 p3 p5 && ib p4 200)) && !(!decide (p5 = 0) && clB V p1 p4)) by cases ib p1 ((V 1 0).toNatClampNeg) <;> cases goodO p2 p3 p5 <;> rfl]
  have fin : ∀ z2 : Int32, z2 = (if (ib p1 ((V 1 0).toNatClampNeg) && (goodO p2 p3 p5 && ib p4 200)) = true then 1 else 0) → _ := fun z2 hz => tail _ rfl (fun hg => by
    simp only [Bool.and_eq_true] at hg
    have := hg.2.1
    unfold goodO at this
    simp only [Bool.or_eq_true, Bool.and_eq_true, decide_eq_true_eq] at this
    rcases this with hh | hh | hh
    · exact Or.inl hh.1
    · exact Or.inr (Or.inl hh.1)
    · exact Or.inr (Or.inr hh.1)) z2 hz
  by_cases g1 : ib p1 ((V 1 0).toNatClampNeg) = true
  · simp only [if_pos g1, jn_mk, i10, if_false, within_eq, cl_mk]
    by_cases g2 : (0 : Int32) ≤ p2 ∧ p2 ≤ 2
    · rw [if_pos g2, if_neg (show ¬ (1 : Int32) = 0 by decide)]
      by_cases g3 : ib p4 200 = true
      · rw [if_pos (ib200'.mpr g3), if_neg (show ¬ (1 : Int32) = 0 by decide)]
        rcases (h012 p2).mp g2 with rfl | rfl | rfl
        · simp only [if_true]
          by_cases c : (1 : Int32) ≤ p5 ∧ p5 ≤ 2
          · rw [if_pos c, if_neg (show ¬ (1 : Int32) = 0 by decide)]
            refine fin 1 ?_
            rw [if_pos]
            rw [g1, g3]
            rcases (h12 p5).mp c with e | e <;> simp [goodO, e]
          · rw [if_neg c, if_pos rfl]
            refine fin 0 ?_
            rw [if_neg]
            intro hh
            simp only [Bool.and_eq_true] at hh
            have := hh.2.1
            simp [goodO] at this
            exact c ((h12 p5).mpr this)
        · simp only [i10, if_false, if_true]
          by_cases c : ib p5 3 = true
          · rw [if_pos (ib3'.mpr c), if_neg (show ¬ (1 : Int32) = 0 by decide)]
            refine fin 1 ?_
            rw [if_pos]
            rw [g1, g3]
            simp [goodO, c]
          · rw [if_neg (fun z => c (ib3'.mp z)), if_pos rfl]
            refine fin 0 ?_
            rw [if_neg]
            intro hh
            simp only [Bool.and_eq_true] at hh
            have := hh.2.1
            simp [goodO, c] at this
        · simp only [i20, i21, if_false]
          by_cases c : p5 = 3
          · rw [if_pos c]
            by_cases c2 : (4 : Int32) ≤ p3 ∧ p3 ≤ 8192
            · rw [if_pos c2, if_neg (show ¬ (1 : Int32) = 0 by decide)]
              obtain ⟨c3, c4⟩ := (hsz p3).mp c2
              by_cases c5 : p3.toNatClampNeg % 4 = 0
              · rw [if_pos ((mod4 (ib_iff.mp c3).1).mpr c5)]
                refine fin 1 ?_
                rw [if_pos]
                rw [g1, g3]
                simp [goodO, c, c3, c4, c5]
              · rw [if_neg (fun z => c5 ((mod4 (ib_iff.mp c3).1).mp z))]
                refine fin 0 ?_
                rw [if_neg]
                intro hh
                simp only [Bool.and_eq_true] at hh
                have := hh.2.1
                simp [goodO, c5] at this
            · rw [if_neg c2, if_pos rfl]
              refine fin 0 ?_
              rw [if_neg]
              intro hh
              simp only [Bool.and_eq_true] at hh
              have := hh.2.1
              simp [goodO] at this
              exact c2 ((hsz p3).mpr ⟨this.2.1, this.2.2.1⟩)
          · rw [if_neg c]
            refine fin 0 ?_
            rw [if_neg]
            intro hh
            simp only [Bool.and_eq_true] at hh
            have := hh.2.1
            simp [goodO, c] at this
      · rw [if_neg (fun z => g3 (ib200'.mp z)), if_pos rfl]
        simp only [if_true]
        refine fin 0 ?_
        rw [if_neg]
        intro hh
        simp only [Bool.and_eq_true] at hh
        exact g3 hh.2.2
    · rw [if_neg g2, if_pos rfl]
      simp only [if_true]
      refine fin 0 ?_
      rw [if_neg]
      intro hh
      simp only [Bool.and_eq_true] at hh
      have := hh.2.1
      unfold goodO at this
      simp only [Bool.or_eq_true, Bool.and_eq_true, decide_eq_true_eq] at this
      refine g2 ((h012 p2).mpr ?_)
      rcases this with hh | hh | hh
      · exact Or.inl hh.1
      · exact Or.inr (Or.inl hh.1)
      · exact Or.inr (Or.inr hh.1)
  · simp only [if_neg g1, jn_mk, i00, if_true]
    refine fin 0 ?_
    rw [if_neg]
    intro hh
    simp only [Bool.and_eq_true] at hh
    exact g1 hh.1
theorem op_other {I : Sto → Sto → Prop} {V M : Sto} (h : WF V) (hr : RelD V M) (hthr : ∀ k, I V (sw M 0 0 k)) (hT : TI I) (p1 p2 p3 p4 p5 : Int32) : StI I cs_Lw_other (f_Ly_other V p1 p2 p3 p4 p5) (f_Mo_other M p1 p2 p3 p4 p5) V 0 := by
  rw [other_C h, other_M h hr]
  by_cases g : goodX V p1 p2 p3 p4 p5 = true
  · rw [if_pos g, if_pos g]
    unfold goodX at g
    simp only [Bool.and_eq_true, Bool.not_eq_true', Bool.and_eq_false_iff] at g
    obtain ⟨g1, g2, g3, g5⟩ := g
    have g2' := g2
    unfold goodO at g2'
    simp only [Bool.or_eq_true, Bool.and_eq_true, decide_eq_true_eq] at g2'
    by_cases g6 : V 3 0 < 400
    · have hn := lt_cnt (n := 400) h.y0 (by decide) g6
      rw [if_pos g6, if_neg (not400 hn), newSym_eq h hr hn]
      refine ⟨0, V 3 0, _, V 3 0, _, Or.inl ⟨rfl, rfl⟩, rfl, ?_, fun _ => rfl, hT _ _ ⟨yV_WF p1 p4 p5 (frm p2) (-1) p3 h hn g1 g3 ?_ ?_ ?_, yV_Rel p1 p4 p5 (frm p2) (-1) p3 hr hn, yV_F V M _ _ _ _ _ _ _, ?_⟩, ?_⟩
      · simp (disch := decide) [yM, sw_at, sw_ne, tld_0]
      · rcases g2' with ⟨-, hh | hh⟩ | ⟨-, hh⟩ | ⟨-, hh, -⟩
        · rw [hh]; decide
        · rw [hh]; decide
        · exact ib_mono hh (by decide)
        · rw [hh]; decide
      · rcases g2' with ⟨rfl, hh⟩ | ⟨rfl, hh⟩ | ⟨rfl, hh, h1, h2, h3⟩
        · exact Or.inl ⟨rfl, hh, rfl⟩
        · refine Or.inr (Or.inr (Or.inl ⟨rfl, fun e => ?_, rfl⟩))
          rw [e] at hh
          exact absurd hh (by decide)
        · exact Or.inr (Or.inr (Or.inr ⟨rfl, hh, rfl, h1, h2, h3⟩))
      · intro y hy e1 e2 e3
        rcases g5 with g5 | g5
        · exact of_decide_eq_true (by simpa using g5)
        · exfalso
          have : clB V p1 p4 = true := any_range.mpr ⟨y, hy, by simp [clP, e1, e2, e3]⟩
          rw [this] at g5
          cases g5
      · simp (disch := decide) [yV, sw_at, sw_ne, tla_0]
      · rw [Nat.zero_add, phi_eq (show yV V p1 p4 p5 (frm p2) (-1) p3 1000 = V 1000 from yV_o (by decide) (by decide) (by decide) (by decide) (by decide) (by decide) (by decide) (by decide))]
        exact Nat.le_refl _
    · rw [if_neg g6, if_pos (full400 h g6)]
      exact st_thr rfl (List.mem_of_getElem? (i := 1) rfl) (by decide) rfl (hthr 2)
  · rw [if_neg g, if_neg g]
    exact st_thr rfl (List.mem_of_getElem? (i := 0) rfl) (by decide) rfl (hthr 1)
