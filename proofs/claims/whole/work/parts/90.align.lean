/-! alignments: a bit count of one is a power of two. -/
def bcv (p0 : Int32) : Option Int32 := (f_bitCount (fun _ _ => 0) p0).map (fun q => q.1)
theorem bc_eq (V : Sto) (p : Int32) : f_bitCount V p = (bcv p).map (fun r => (r, V)) := rfl
def pw2 (n : Nat) : Bool := decide (n = 4 ∨ n = 8 ∨ n = 16 ∨ n = 32 ∨ n = 64 ∨ n = 128 ∨ n = 256 ∨ n = 512 ∨ n = 1024 ∨ n = 2048 ∨ n = 4096)
def alOk (n : Nat) : Bool := decide (bcv (nI n) = some 1) == pw2 n && (decide (nI n &&& (nI n - 1) = 0) == pw2 n && (bcv (nI n)).isSome)
theorem al_tab : ((List.range 4097).drop 4).all alOk = true := by decide +kernel
theorem al_at {n : Nat} (h4 : 4 ≤ n) (hn : n ≤ 4096) : alOk n = true := by
  refine List.all_eq_true.mp al_tab n ?_
  rw [List.mem_drop_iff_getElem]
  exact ⟨n - 4, by rw [List.length_range]; omega, by simp; omega⟩
theorem pw2_e {n : Nat} (h : pw2 n = true) : ∃ e, 2 ≤ e ∧ e ≤ 12 ∧ n = 2 ^ e := by
  unfold pw2 at h
  rcases of_decide_eq_true h with rfl | rfl | rfl | rfl | rfl | rfl | rfl | rfl | rfl | rfl | rfl
  · exact ⟨2, by decide⟩
  · exact ⟨3, by decide⟩
  · exact ⟨4, by decide⟩
  · exact ⟨5, by decide⟩
  · exact ⟨6, by decide⟩
  · exact ⟨7, by decide⟩
  · exact ⟨8, by decide⟩
  · exact ⟨9, by decide⟩
  · exact ⟨10, by decide⟩
  · exact ⟨11, by decide⟩
  · exact ⟨12, by decide⟩
def goodA (p : Int32) : Bool := ib p 4097 && pw2 (p.toNatClampNeg)
theorem al_rng {p : Int32} : ((4 : Int32) ≤ p ∧ p ≤ 4096) ↔ (4 ≤ p.toNatClampNeg ∧ ib p 4097 = true) := by
  have e4 : (4 : Int32).toInt = 4 := by decide
  have e1 : (4096 : Int32).toInt = 4096 := by decide
  rw [ib_iff, Int32.le_iff_toInt_le, Int32.le_iff_toInt_le, e4, e1]
  constructor
  · intro hh
    have := clI (x := p) (by omega)
    omega
  · intro hh
    have := clI hh.2.1
    omega
theorem isAl_eq (V : Sto) (p : Int32) : f_Ly_isAlignment V p = some (if goodA p = true then 1 else 0, V) := by
  unfold f_Ly_isAlignment
  by_cases h : (4 : Int32) ≤ p ∧ p ≤ 4096
  · rw [if_neg (Int32.not_lt.mpr h.1), if_neg (Int32.not_lt.mpr h.2)]
    obtain ⟨h4, hib⟩ := al_rng.mp h
    have hp := ib_eq hib
    have hlt := ib_lt hib
    have ht := al_at h4 (by omega)
    unfold alOk at ht
    rw [← hp] at ht
    simp only [Bool.and_eq_true, beq_iff_eq] at ht
    obtain ⟨t1, t2, t3⟩ := ht
    rw [bc_eq]
    cases hb : bcv p with
    | none => rw [hb] at t3; cases t3
    | some r =>
      rw [hb] at t1
      show cl (some (r, V)) _ = _
      rw [cl_mk]
      unfold goodA
      rw [hib, Bool.true_and, ← t1]
      by_cases hr : r = 1
      · subst hr
        simp
      · rw [if_neg hr, if_neg]
        simp [hr]
  · rw [show goodA p = false by
      cases hg : goodA p with
      | false => rfl
      | true =>
        exfalso
        unfold goodA at hg
        rw [Bool.and_eq_true] at hg
        obtain ⟨e, e1, e2, e3⟩ := pw2_e hg.2
        refine h (al_rng.mpr ⟨?_, hg.1⟩)
        rw [e3]
        calc 4 = 2 ^ 2 := rfl
          _ ≤ 2 ^ e := Nat.pow_le_pow_right (by decide) e1]
    by_cases g : p < 4
    · rw [if_pos g]; rfl
    · rw [if_neg g, if_pos (Int32.not_le.mp (fun z => h ⟨Int32.not_lt.mp g, z⟩))]; rfl
theorem isAlM_eq (M : Sto) (p : Int32) : f_Mo_isAlignment M p = some (if goodA p = true then 1 else 0, M) := by
  unfold f_Mo_isAlignment
  rw [within_eq, cl_mk]
  by_cases h : (4 : Int32) ≤ p ∧ p ≤ 4096
  · rw [if_pos h, if_neg (by decide)]
    obtain ⟨h4, hib⟩ := al_rng.mp h
    have hp := ib_eq hib
    have hlt := ib_lt hib
    have ht := al_at h4 (by omega)
    unfold alOk at ht
    rw [← hp] at ht
    simp only [Bool.and_eq_true, beq_iff_eq] at ht
    obtain ⟨t1, t2, t3⟩ := ht
    unfold goodA
    rw [hib, Bool.true_and, ← t2]
    by_cases c : p &&& (p - 1) = 0
    · rw [if_pos c]
      simp [c]
    · rw [if_neg c]
      simp [c]
  · rw [if_neg h, if_pos rfl]
    rw [if_neg]
    intro hg
    unfold goodA at hg
    rw [Bool.and_eq_true] at hg
    obtain ⟨e, e1, e2, e3⟩ := pw2_e hg.2
    refine h (al_rng.mpr ⟨?_, hg.1⟩)
    rw [e3]
    calc 4 = 2 ^ 2 := rfl
      _ ≤ 2 ^ e := Nat.pow_le_pow_right (by decide) e1
theorem goodA_e {p : Int32} (h : goodA p = true) : ∃ e, 2 ≤ e ∧ e ≤ 12 ∧ p = nI (2 ^ e) := by
  unfold goodA at h
  rw [Bool.and_eq_true] at h
  obtain ⟨e, e1, e2, e3⟩ := pw2_e h.2
  exact ⟨e, e1, e2, by rw [← e3]; exact ib_eq h.1⟩
