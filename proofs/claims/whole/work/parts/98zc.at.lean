/-! The words of a link. -/
theorem stg_ldr {F : Sto} {s : Nat} (h : stg F s = true) (hs : s < 96) : ldr F s = s := by
  unfold ldr
  rw [(stg_43 h).2, cI (by omega)]
theorem std_hi {V F : Sto} {b c s : Nat} (hs : s < 96) (hst : stg F s = true) : pk V F (V 16 s) (beg V F b c (V 16 s)) (s + 1) = adF V F b c s + (V 17 s).toNatClampNeg := by
  unfold adF adk
  rw [stg_ldr hst hs]
  show (if stg F s = true ∧ V 16 s = V 16 s then _ else _) = _
  rw [if_pos ⟨hst, rfl⟩]
theorem std_lo {V F : Sto} (h : WF V) {b c s : Nat} (hs : s < (V 2 0).toNatClampNeg) (hst : stg F s = true) : pk V F (V 16 s) (beg V F b c (V 16 s)) s ≤ adF V F b c s := by
  have hs1 := h.s1
  obtain ⟨e, e1, -, -, e4, -⟩ := al_e h hs
  unfold adF adk
  rw [stg_ldr hst (by omega), e4]
  exact upN_ge (Nat.pos_of_ne_zero (fun z => by have := Nat.pow_eq_zero.mp z; omega))
theorem std_rng {V F : Sto} (h : WF V) {b c s : Nat} (hs : s < (V 2 0).toNatClampNeg) (hst : stg F s = true) : (V 16 s = 0 ∧ b ≤ adF V F b c s ∧ adF V F b c s + (V 17 s).toNatClampNeg ≤ t1 V F b) ∨ (V 16 s = 1 ∧ t2 V F b c ≤ adF V F b c s ∧ adF V F b c s + (V 17 s).toNatClampNeg ≤ t3 V F b c) ∨ (V 16 s = 2 ∧ t3 V F b c ≤ adF V F b c s ∧ adF V F b c s + (V 17 s).toNatClampNeg ≤ t4 V F b c) := by
  have hs1 := h.s1
  have h1 := std_hi (V := V) (b := b) (c := c) (show s < 96 by omega) hst
  have h2 := std_lo (b := b) (c := c) h hs hst
  have h3 := pk_mono (F := F) h (V 16 s) (beg V F b c (V 16 s)) (show s + 1 ≤ (V 2 0).toNatClampNeg by omega) (Nat.le_refl _)
  have h4 := pk_mono (F := F) h (V 16 s) (beg V F b c (V 16 s)) (Nat.zero_le s) (by omega)
  have h5 : pk V F (V 16 s) (beg V F b c (V 16 s)) 0 = beg V F b c (V 16 s) := rfl
  rcases ib3c (h.sk s hs) with k | k | k
  · refine Or.inl ⟨k, ?_⟩
    have e : beg V F b c (V 16 s) = b := by unfold beg; rw [k, if_pos rfl]
    rw [e] at h1 h2 h3 h4 h5
    rw [k] at h1 h2 h3 h4 h5
    have e1 : t1 V F b = pk V F 0 b ((V 2 0).toNatClampNeg) := rfl
    omega
  · refine Or.inr (Or.inl ⟨k, ?_⟩)
    have e : beg V F b c (V 16 s) = t2 V F b c := by unfold beg; rw [k, if_neg n10, if_pos rfl]
    rw [e] at h1 h2 h3 h4 h5
    rw [k] at h1 h2 h3 h4 h5
    have e1 : t3 V F b c = pk V F 1 (t2 V F b c) ((V 2 0).toNatClampNeg) := rfl
    omega
  · refine Or.inr (Or.inr ⟨k, ?_⟩)
    have e : beg V F b c (V 16 s) = t3 V F b c := by unfold beg; rw [k, if_neg (by decide), if_neg n21]
    rw [e] at h1 h2 h3 h4 h5
    rw [k] at h1 h2 h3 h4 h5
    have e1 : t4 V F b c = pk V F 2 (t3 V F b c) ((V 2 0).toNatClampNeg) := rfl
    omega
theorem t_ord {V F : Sto} (h : WF V) {b c : Nat} : t1 V F b ≤ upN (t1 V F b) 4 ∧ t2 V F b c = upN (t1 V F b) 4 + c * 8 ∧ t2 V F b c ≤ t3 V F b c ∧ t3 V F b c ≤ t4 V F b c := by
  refine ⟨upN_ge (by decide), rfl, ?_, ?_⟩
  · exact pk_mono (F := F) h 1 (t2 V F b c) (Nat.zero_le _) (Nat.le_refl _)
  · exact pk_mono (F := F) h 2 (t3 V F b c) (Nat.zero_le _) (Nat.le_refl _)
def inr (V F : Sto) (b c a s : Nat) : Bool := stg F s && (decide (adF V F b c s ≤ a) && decide (a < adF V F b c s + (V 17 s).toNatClampNeg))
theorem inr_iff {V F : Sto} {b c a s : Nat} : inr V F b c a s = true ↔ stg F s = true ∧ adF V F b c s ≤ a ∧ a < adF V F b c s + (V 17 s).toNatClampNeg := by
  unfold inr
  rw [Bool.and_eq_true, Bool.and_eq_true, decide_eq_true_eq, decide_eq_true_eq]
theorem inr_lt {V F : Sto} (h : WF V) {b c a s t : Nat} (hs : s < (V 2 0).toNatClampNeg) (ht : t < (V 2 0).toNatClampNeg) (hst : s < t) (h1 : inr V F b c a s = true) (h2 : inr V F b c a t = true) : False := by
  have hs1 := h.s1
  obtain ⟨a1, a2, a3⟩ := inr_iff.mp h1
  obtain ⟨b1, b2', b3⟩ := inr_iff.mp h2
  obtain ⟨o1, o2, o3, o4⟩ := t_ord (F := F) (b := b) (c := c) h
  have same : V 16 s = V 16 t → False := by
    intro k
    have e1 := std_hi (V := V) (b := b) (c := c) (show s < 96 by omega) a1
    have e2 := std_lo (b := b) (c := c) h ht b1
    have e3 := pk_mono (F := F) h (V 16 s) (beg V F b c (V 16 s)) (show s + 1 ≤ t from hst) (by omega)
    rw [← k] at e2
    omega
  rcases std_rng (b := b) (c := c) h hs a1 with ⟨k, k1, k2⟩ | ⟨k, k1, k2⟩ | ⟨k, k1, k2⟩
  · rcases std_rng (b := b) (c := c) h ht b1 with ⟨l, l1, l2⟩ | ⟨l, l1, l2⟩ | ⟨l, l1, l2⟩
    · exact same (by rw [k, l])
    · omega
    · omega
  · rcases std_rng (b := b) (c := c) h ht b1 with ⟨l, l1, l2⟩ | ⟨l, l1, l2⟩ | ⟨l, l1, l2⟩
    · omega
    · exact same (by rw [k, l])
    · omega
  · rcases std_rng (b := b) (c := c) h ht b1 with ⟨l, l1, l2⟩ | ⟨l, l1, l2⟩ | ⟨l, l1, l2⟩
    · omega
    · omega
    · exact same (by rw [k, l])
theorem inr_uniq {V F : Sto} (h : WF V) {b c a s t : Nat} (hs : s < (V 2 0).toNatClampNeg) (ht : t < (V 2 0).toNatClampNeg) (h1 : inr V F b c a s = true) (h2 : inr V F b c a t = true) : s = t := by
  rcases Nat.lt_trichotomy s t with e | e | e
  · exact (inr_lt h hs ht e h1 h2).elim
  · exact e
  · exact (inr_lt h ht hs e h2 h1).elim
theorem le_pred {a x : Nat} (ha : a < 2 ^ 31) (hx : x < 2 ^ 31) : nI a ≤ nI x - 1 ↔ a < x := by
  cases x with
  | zero =>
    constructor
    · intro z
      exfalso
      rw [Int32.le_iff_toInt_le, nI_toInt ha] at z
      have e : (nI 0 - 1).toInt = -1 := by decide
      omega
    · intro z; omega
  | succ x =>
    rw [nI_pred, nI_le_iff ha (by omega)]
    omega
theorem adF_bd {V F : Sto} (h : WF V) {b c s : Nat} (hb : b ≤ 1048576) (hc : c ≤ 32) (hs : s < (V 2 0).toNatClampNeg) (hst : stg F s = true) : adF V F b c s + (V 17 s).toNatClampNeg ≤ 7000000 := by
  obtain ⟨b1, b2', b3, b4⟩ := t_bd (F := F) h hb hc
  rcases std_rng (b := b) (c := c) h hs hst with ⟨-, -, k⟩ | ⟨-, -, k⟩ | ⟨-, -, k⟩ <;> omega
theorem secAt_eq {W V S F M : Sto} {b c : Nat} (hL : Lq W M V S F b c) {a : Nat} (ha : a < 2 ^ 31) : f_La_sectionAt W (nI a) = some (optI ((List.range ((V 2 0).toNatClampNeg)).find? (inr V F b c a)), W) := by
  have h := hL.w
  have hs1 := h.s1
  have hq := hL.q
  have hcl := hq.i.hc
  have hd : Dat V W := hL.t.d.only hq.x (by decide)
  unfold f_La_sectionAt
  have key := fstK (L := fun n s => lp_La_sectionAt_2 (nI a) (fun y1 V2 => some (y1, V2)) (fun V3 => some ((-1), V3)) n (nI s) W) (P := inr V F b c a) (a := 0) (N := (V 2 0).toNatClampNeg) (kf := fun s => some (nI s, W)) (kn := some (-1, W)) (Nat.zero_le _) (by omega) (by
    intro n s _ hs
    show lp_La_sectionAt_2 (nI a) (fun y1 V2 => some (y1, V2)) (fun V3 => some ((-1), V3)) (n + 1) (nI s) W = if inr V F b c a s = true then some (nI s, W) else lp_La_sectionAt_2 (nI a) (fun y1 V2 => some (y1, V2)) (fun V3 => some ((-1), V3)) n (nI (s + 1)) W
    rw [lp_La_sectionAt_2, hd 2 rfl, if_neg (fun z => by have := (le_cnt h.s0 (by omega)).mp z; omega), isStanding_eq hq.x (show s < 96 by omega), cl_mk, ib_nI (show s < 96 by omega) (by decide), ck_mk, ck_mk, cI (by omega), hd 17 rfl, nI1]
    unfold inr
    cases hst : stg F s with
    | false => rw [if_pos b2f, Bool.false_and, if_neg (by decide)]
    | true =>
      have hbd := adF_bd (b := b) (c := c) h hL.b.1 hcl hs hst
      have ez := ib_eq (h.sz s hs).1
      rw [if_neg b2t, Bool.true_and, hq.l.a s hs (stg_43 hst).1, ez, nI_add, cI (by omega)]
      by_cases c1 : adF V F b c s ≤ a
      · rw [if_neg (nI_nlt c1 (by omega)), decide_eq_true c1, Bool.true_and]
        by_cases c2 : a < adF V F b c s + (V 17 s).toNatClampNeg
        · rw [if_neg (nI_ge c2 (by omega)), if_pos (decide_eq_true c2), ck_mk]
        · rw [if_pos (nI_le (by omega) (by omega)), if_neg (show ¬ decide (a < adF V F b c s + (V 17 s).toNatClampNeg) = true by rw [decide_eq_false c2]; decide), ck_mk]
      · rw [if_pos (nI_lt (by omega) (by omega)), decide_eq_false c1, Bool.false_and, if_neg (by decide)]) (by
    intro n
    show lp_La_sectionAt_2 (nI a) (fun y1 V2 => some (y1, V2)) (fun V3 => some ((-1), V3)) (n + 1) (nI ((V 2 0).toNatClampNeg)) W = some (-1, W)
    rw [lp_La_sectionAt_2, hd 2 rfl, if_pos ((le_cnt h.s0 (by omega)).mpr (Nat.le_refl _))])
  rcases key with ⟨t, -, k1, k2, k3, k4⟩ | ⟨k1, k2⟩
  · rw [find_some_r k1 k2 (fun j hj => k3 j (Nat.zero_le _) hj)]
    exact k4
  · rw [find_none_r (fun j hj => k1 j (Nat.zero_le _) hj)]
    exact k2
theorem mended_eq {W V S F M : Sto} {b c : Nat} (hL : Lq W M V S F b c) {s k : Nat} (hs : s < (V 2 0).toNatClampNeg) (h3 : ¬ F 43 s = 0) (hz : ¬ V 16 s = 2) (hk : k < (V 17 s).toNatClampNeg / 4) : f_Me_mended W (nI s) (nI (4 * k)) = some (mwd V W (Rl V ((V 4 0).toNatClampNeg) s) (nI (4 * k)) (wdv V s k), W) := by
  have h := hL.w
  have hr1 := h.r1
  have hq := hL.q
  have hd : Dat V W := hL.t.d.only hq.x (by decide)
  have ho : OrdQ V W := hL.t.o.keep (hq.x 32 (by decide)) (hq.x 33 (by decide))
  have l1 := ln_le h hs
  unfold f_Me_mended
  rw [readC_eq h hd hs hz hk, cl_mk]
  have key := forN (σ := Int32) (L := fun n j x => lp_Me_mended_13 (nI s) (nI (4 * k)) (fun y1 V5 => some (y1, V5)) n x (nI j) W) (N := ln V s) (Inv := fun j x => x = mwd V W ((Rl V ((V 4 0).toNatClampNeg) s).take j) (nI (4 * k)) (wdv V s k)) (Q := fun r => r = some (mwd V W (Rl V ((V 4 0).toNatClampNeg) s) (nI (4 * k)) (wdv V s k), W)) (by omega) (by
    rintro n j x hj hx ih
    obtain ⟨r1, r2⟩ := rl_lt hj
    show lp_Me_mended_13 (nI s) (nI (4 * k)) (fun y1 V5 => some (y1, V5)) (n + 1) x (nI j) W = _
    rw [lp_Me_mended_13, countL h ho hs, cl_mk, if_neg (nI_ge hj (by omega)), pickL h ho hs hj, cl_mk, ib_nI (show rl V s j < 600 by omega) (by decide), ck_mk, cI (show rl V s j < 2 ^ 31 by omega), hd 28 rfl, mendC_eq h hL.t hq.x r1 (by rw [r2]; exact h3), cl_mk, nI1]
    have et : (Rl V ((V 4 0).toNatClampNeg) s).take (j + 1) = (Rl V ((V 4 0).toNatClampNeg) s).take j ++ [rl V s j] := by
      have hj' : j < (Rl V ((V 4 0).toNatClampNeg) s).length := hj
      rw [List.take_succ_eq_append_getElem hj']
      unfold rl
      rw [List.getD_eq_getElem?_getD, List.getElem?_eq_getElem hj']
      rfl
    by_cases c1 : V 28 (rl V s j) = nI (4 * k)
    · rw [if_pos c1]
      exact ih _ (by rw [et, mwd_app, if_pos c1, hx])
    · rw [if_neg c1]
      exact ih _ (by rw [et, mwd_app, if_neg c1, hx])) (by
    rintro n x hx
    show lp_Me_mended_13 (nI s) (nI (4 * k)) (fun y1 V5 => some (y1, V5)) (n + 1) x (nI (ln V s)) W = _
    rw [lp_Me_mended_13, countL h ho hs, cl_mk, if_pos (nI_le (Nat.le_refl _) (by omega)), hx]
    have : (Rl V ((V 4 0).toNatClampNeg) s).take (ln V s) = Rl V ((V 4 0).toNatClampNeg) s := List.take_length
    rw [this]) 0 (wdv V s k) (Nat.zero_le _) rfl
  exact key
theorem start_lm {W V S F M : Sto} {b c : Nat} (hL : Lq W M V S F b c) {r : Nat} (hr : r < (V 4 0).toNatClampNeg) (h3 : ¬ F 43 (sec V r) = 0) : f_La_startOf W (F 40 (dY V r)) (lm F (dY V r)) = some (stO W (dY V r), W) := by
  have h := hL.w
  have hs1 := h.s1
  have hq := hL.q
  have hC := hL.t
  unfold f_La_startOf stO lm
  rw [hq.x 40 (by decide), hq.x 41 (by decide)]
  by_cases c1 : F 40 (dY V r) = 1
  · have w := (hC.w h hr h3).1 c1
    have hrt := (hC.r r hr h3).1 c1
    have hn := hC.f.n _ w.2
    have hle := hC.f.le _ w.2
    have hld := hC.f.ld _ w.2
    have hl43 : ¬ F 43 ((F 46 ((F 41 (dY V r)).toNatClampNeg)).toNatClampNeg) = 0 := by
      rcases hC.f.b ((F 46 ((F 41 (dY V r)).toNatClampNeg)).toNatClampNeg) ((F 41 (dY V r)).toNatClampNeg) (by omega) w.2 hld with e | ⟨-, g2, -, -⟩
      · rw [e]; exact hrt
      · rw [hC.s 43 (by decide)]; exact (mf_text g2).2.2.1
    rw [if_pos c1, if_pos c1, if_pos c1]
    have il : ib (F 46 ((F 41 (dY V r)).toNatClampNeg)) 96 = true := by rw [hn]; exact ib_nI (by omega) (by decide)
    rw [il, ck_mk, hq.l.a _ (by omega) hl43, hq.l.a _ w.2 hrt]
    unfold adF ldr
    rw [hld]
  · rw [if_neg c1, if_neg c1, if_neg c1]
    by_cases c3 : F 40 (dY V r) = 3
    · rw [if_pos c3, if_pos c3, ((hC.w h hr h3).2 c3).2, ck_mk]
    · rw [if_neg c3, if_neg c3]
/-- what stands at an address, in the class -/
theorem readAt_eq {W V S F M : Sto} {b c : Nat} (hL : Lq W M V S F b c) {a : Nat} (ha : a < 2 ^ 30) (ha4 : a % 4 = 0) : ∃ v, f_Me_read W (nI a) = some (v, W) ∧
    ((∃ s, s < (V 2 0).toNatClampNeg ∧ inr V F b c a s = true ∧ ¬ V 16 s = 2 ∧ v = mwd V W (Rl V ((V 4 0).toNatClampNeg) s) (nI (4 * ((a - adF V F b c s) / 4))) (wdv V s ((a - adF V F b c s) / 4))) ∨
     ((∀ s, s < (V 2 0).toNatClampNeg → inr V F b c a s = true → V 16 s = 2) ∧ (upN (t1 V F b) 4 ≤ a ∧ a < upN (t1 V F b) 4 + c * 8 → (∀ s, s < (V 2 0).toNatClampNeg → inr V F b c a s = false)) ∧
      ((upN (t1 V F b) 4 ≤ a ∧ a < upN (t1 V F b) 4 + c * 8 ∧ (a - upN (t1 V F b) 4) % 8 = 0 ∧ ∃ r, r < (V 4 0).toNatClampNeg ∧ M 31 ((a - upN (t1 V F b) 4) / 8) = nI r ∧ ¬ F 43 (sec V r) = 0 ∧ v = tgC V W r) ∨
       (¬ (upN (t1 V F b) 4 ≤ a ∧ a < upN (t1 V F b) 4 + c * 8 ∧ (a - upN (t1 V F b) 4) % 8 = 0) ∧ v = 0)))) := by
  have h := hL.w
  have hs1 := h.s1
  have hq := hL.q
  have hC := hL.t
  have hcl := hq.i.hc
  have hd : Dat V W := hC.d.only hq.x (by decide)
  obtain ⟨b1, b2', b3, b4⟩ := t_bd (F := F) h hL.b.1 hcl
  obtain ⟨o1, o2, o3, o4⟩ := t_ord (F := F) (b := b) (c := c) h
  unfold f_Me_read
  rw [secAt_eq hL (by omega), cl_mk]
  -- nothing stands there but an island
  have isl : (∀ s, s < (V 2 0).toNatClampNeg → inr V F b c a s = false) → ∃ v, (cl (f_Is_covers W (nI a)) fun r3 V3 => if r3 = 0 then some (0, V3) else cl (f_Is_read V3 (nI a)) fun r4 V4 => some (r4, V4)) = some (v, W) ∧ ((upN (t1 V F b) 4 ≤ a ∧ a < upN (t1 V F b) 4 + c * 8 ∧ (a - upN (t1 V F b) 4) % 8 = 0 ∧ ∃ r, r < (V 4 0).toNatClampNeg ∧ M 31 ((a - upN (t1 V F b) 4) / 8) = nI r ∧ ¬ F 43 (sec V r) = 0 ∧ v = tgC V W r) ∨ (¬ (upN (t1 V F b) 4 ≤ a ∧ a < upN (t1 V F b) 4 + c * 8 ∧ (a - upN (t1 V F b) 4) % 8 = 0) ∧ v = 0)) := by
    intro _
    have e8 : nI c * 8 = nI (c * 8) := nI_mul c 8
    unfold f_Is_covers
    rw [hq.l.i, hq.i.xc, e8, nI_add]
    by_cases c1 : upN (t1 V F b) 4 ≤ a
    · rw [if_neg (nI_nlt c1 (by omega))]
      by_cases c2 : a < upN (t1 V F b) 4 + c * 8
      · rw [if_neg (nI_ge c2 (by omega)), cl_mk, if_neg n10]
        unfold f_Is_read
        rw [hq.l.i, nI_sub c1 (by omega)]
        have em : nI (a - upN (t1 V F b) 4) - nI (a - upN (t1 V F b) 4) / 8 * 8 = nI ((a - upN (t1 V F b) 4) % 8) := nI_mod (b := 8) (by omega) (by omega) (by omega)
        have ed : nI (a - upN (t1 V F b) 4) / 8 = nI ((a - upN (t1 V F b) 4) / 8) := nI_div (b := 8) (by omega) (by omega) (by omega)
        rw [em, ed]
        by_cases c3 : (a - upN (t1 V F b) 4) % 8 = 0
        · rw [if_pos (show nI ((a - upN (t1 V F b) 4) % 8) = 0 by rw [c3]; rfl)]
          have hil : (a - upN (t1 V F b) 4) / 8 < c := by omega
          obtain ⟨r, r1, r2, r3, r4, r5, r6⟩ := hq.i.tg _ hil
          rw [ib_nI (show (a - upN (t1 V F b) 4) / 8 < 32 by omega) (by decide), ck_mk, ck_mk, cI (by omega), r4, r5, start_lm hL r1 r3, cl_mk, ck_mk, r6, cl_mk]
          refine ⟨_, rfl, Or.inl ⟨c1, c2, c3, r, r1, r2, r3, ?_⟩⟩
          unfold tgC adO
          rw [hq.x 42 (by decide), Int32.add_assoc]
        · rw [if_neg (show ¬ nI ((a - upN (t1 V F b) 4) % 8) = 0 from fun z => c3 ((nI_eq (b := 0) (by omega) (by omega)).mp z)), cl_mk]
          exact ⟨0, rfl, Or.inr ⟨fun z => c3 z.2.2, rfl⟩⟩
      · rw [if_pos (nI_le (by omega) (by omega)), cl_mk, if_pos rfl]
        exact ⟨0, rfl, Or.inr ⟨fun z => c2 z.2.1, rfl⟩⟩
    · rw [if_pos (nI_lt (by omega) (by omega)), cl_mk, if_pos rfl]
      exact ⟨0, rfl, Or.inr ⟨fun z => c1 z.1, rfl⟩⟩
  cases hf : (List.range ((V 2 0).toNatClampNeg)).find? (inr V F b c a) with
  | none =>
    have hno : ∀ s, s < (V 2 0).toNatClampNeg → inr V F b c a s = false := fun s hs => by
      have := List.find?_eq_none.mp hf s (List.mem_range.mpr hs)
      exact Bool.eq_false_iff.mpr this
    rw [optI_none, if_pos rfl]
    obtain ⟨v, v1, v2⟩ := isl hno
    exact ⟨v, v1, Or.inr ⟨fun s hs z => absurd z (by rw [hno s hs]; decide), fun _ => hno, v2⟩⟩
  | some s =>
    have hs := List.mem_range.mp (List.mem_of_find?_eq_some hf)
    have hP := List.find?_some hf
    obtain ⟨p1, p2, p3⟩ := inr_iff.mp hP
    have h43 := (stg_43 p1).1
    have hbd := adF_bd (b := b) (c := c) h hL.b.1 hcl hs p1
    have uniq : ∀ t, t < (V 2 0).toNatClampNeg → inr V F b c a t = true → t = s := fun t ht hz => inr_uniq h ht hs hz hP
    rw [optI_some, if_neg (m1_ne s (by omega)), ib_nI (show s < 96 by omega) (by decide), ck_mk, ck_mk, cI (by omega), hd 16 rfl]
    by_cases c2 : V 16 s = 2
    · rw [if_pos c2]
      have hout : ¬ (upN (t1 V F b) 4 ≤ a ∧ a < upN (t1 V F b) 4 + c * 8) := by
        rintro ⟨z1, z2⟩
        rcases std_rng (b := b) (c := c) h hs p1 with ⟨k, k1, k2⟩ | ⟨k, k1, k2⟩ | ⟨k, k1, k2⟩
        · rw [c2] at k; exact absurd k (by decide)
        · rw [c2] at k; exact absurd k (by decide)
        · omega
      exact ⟨0, rfl, Or.inr ⟨fun t ht hz => by rw [uniq t ht hz]; exact c2, fun z => absurd z hout, Or.inr ⟨fun z => hout ⟨z.1, z.2.1⟩, rfl⟩⟩⟩
    · rw [if_neg c2, hq.l.a s hs h43, nI_sub p2 (by omega)]
      -- all is a multiple of four
      have h4 : adF V F b c s % 4 = 0 := by
        obtain ⟨e, e1, -, -, e4, -⟩ := al_e h hs
        unfold adF adk
        rw [stg_ldr p1 (by omega), e4]
        exact upN_4 e1
      have hsz := (h.sz s hs).2
      have ek : a - adF V F b c s = 4 * ((a - adF V F b c s) / 4) := by omega
      have hk : (a - adF V F b c s) / 4 < (V 17 s).toNatClampNeg / 4 := by omega
      have := mended_eq hL hs h43 c2 hk
      rw [← ek] at this
      rw [this, cl_mk]
      refine ⟨_, rfl, Or.inl ⟨s, hs, hP, c2, ?_⟩⟩
      rw [← ek]
theorem at58 {V F X M : Sto} (h : WF V) (hM : MX V F M) {b c a : Nat} (ha : a < 2 ^ 31) (h27 : ∀ s, s < (V 2 0).toNatClampNeg → stg F s = true → M 27 s = nI (adF V F b c s) ∧ adF V F b c s + (V 17 s).toNatClampNeg ≤ 7000000) {k1 : Int32 → Sto → RT} {k2 : Sto → RT} : lp_Mo_at_58 (nI a) k1 k2 FU 0 M = match (List.range ((V 2 0).toNatClampNeg)).find? (fun s => inr V F b c a s && !decide (V 16 s = 2)) with
    | some s => k1 (nI s) M
    | none => k2 M := by
  have hs1 := h.s1
  have key := fstK (L := fun n s => lp_Mo_at_58 (nI a) k1 k2 n (nI s) M) (P := fun s => inr V F b c a s && !decide (V 16 s = 2)) (a := 0) (N := (V 2 0).toNatClampNeg) (kf := fun s => k1 (nI s) M) (kn := k2 M) (Nat.zero_le _) (by omega) (by
    intro n s _ hs
    show lp_Mo_at_58 (nI a) k1 k2 (n + 1) (nI s) M = if (inr V F b c a s && !decide (V 16 s = 2)) = true then k1 (nI s) M else lp_Mo_at_58 (nI a) k1 k2 n (nI (s + 1)) M
    rw [lp_Mo_at_58, hM.m.r.s0, if_neg (fun z => by have := (le_cnt h.s0 (by omega)).mp z; omega), stays_eq h hM hs, cl_mk, ib_nI (show s < 96 by omega) (by decide), ck_mk, ck_mk, ck_mk, ck_mk, cI (by omega), hM.m.r.sk, hM.m.r.sz, nI1]
    unfold inr
    cases hst : stg F s with
    | false => rw [if_pos b2f, Bool.false_and, Bool.false_and, if_neg (by decide)]
    | true =>
      obtain ⟨g1, g2⟩ := h27 s hs hst
      have ez := ib_eq (h.sz s hs).1
      rw [if_neg b2t, Bool.true_and]
      by_cases c2 : V 16 s = 2
      · rw [if_pos c2, decide_eq_true c2, Bool.not_true, Bool.and_false, if_neg (by decide)]
      · rw [if_neg c2, decide_eq_false c2, Bool.not_false, Bool.and_true, within_eq, g1, ez, nI_add, cI (by omega), cl_mk]
        by_cases c1 : adF V F b c s ≤ a
        · rw [decide_eq_true c1, Bool.true_and]
          by_cases c3 : a < adF V F b c s + (V 17 s).toNatClampNeg
          · rw [if_pos (show nI (adF V F b c s) ≤ nI a ∧ nI a ≤ nI (adF V F b c s + (V 17 s).toNatClampNeg) - 1 from ⟨nI_le c1 (by omega), (le_pred (by omega) (by omega)).mpr c3⟩), if_neg n10, if_pos (decide_eq_true c3)]
          · rw [if_neg (show ¬ (nI (adF V F b c s) ≤ nI a ∧ nI a ≤ nI (adF V F b c s + (V 17 s).toNatClampNeg) - 1) from fun z => c3 ((le_pred (by omega) (by omega)).mp z.2)), if_pos rfl, if_neg (by rw [decide_eq_false c3]; decide)]
        · rw [decide_eq_false c1, Bool.false_and, if_neg (show ¬ (nI (adF V F b c s) ≤ nI a ∧ nI a ≤ nI (adF V F b c s + (V 17 s).toNatClampNeg) - 1) from fun z => c1 ((nI_le_iff (by omega) (by omega)).mp z.1)), if_pos rfl, if_neg (by decide)]) (by
    intro n
    show lp_Mo_at_58 (nI a) k1 k2 (n + 1) (nI ((V 2 0).toNatClampNeg)) M = k2 M
    rw [lp_Mo_at_58, hM.m.r.s0, if_pos ((le_cnt h.s0 (by omega)).mpr (Nat.le_refl _))])
  rcases key with ⟨t, -, q1, q2, q3, q4⟩ | ⟨q1, q2⟩
  · rw [find_some_r q1 q2 (fun j hj => q3 j (Nat.zero_le _) hj)]
    exact q4
  · rw [find_none_r (fun j hj => q1 j (Nat.zero_le _) hj)]
    exact q2
theorem op_at {V M : Sto} (hI : Iv V M) (p : Int32) : StI Iv cs_Lw_at (f_Ly_at V p) (f_Mo_at M p) V 0 := by
  rcases hI.two with ⟨l1, l2⟩ | ⟨l1, l2, V1, S, F, b, c, hL⟩
  · refine st_thr (V := V) (M := M) (e := 1) (k := 1) (b := 0) (by unfold f_Ly_at; rw [ask0 l1, clT_th]) (by decide) (by decide) ?_ (hI.thr 1)
    unfold f_Mo_at
    rw [jn_mk, if_pos l2]
    dsimp only
    rw [jn_mk, if_pos l2]
    dsimp only
    rw [refuse_10, cl_mk, if_neg n10]
  · have l2' : ¬ M 0 29 = 0 := by rw [l2]; decide
    have hq0 := hL.q
    have h := hL.w
    have hcl := hq0.i.hc
    obtain ⟨b1, b2', b3, b4⟩ := t_bd (F := F) h hL.b.1 hcl
    obtain ⟨o1, o2, o3, o4⟩ := t_ord (F := F) (b := b) (c := c) h
    have hend := cm_le hL.t.c (t4 V1 F b c) 200 (Nat.le_refl _)
    obtain ⟨e, he⟩ : ∃ e, cm F (t4 V1 F b c) 200 = e := ⟨_, rfl⟩
    rw [he] at hend
    have v5 : V 9 5 = nI e := by rw [hq0.l.e, he]
    have v4 : V 9 4 = nI b := hq0.l.b
    have m34 : M 0 34 = nI e := by rw [hq0.m.e, he]
    have m33 : M 0 33 = nI b := hq0.m.b
    have hb := hL.b.1
    -- refused
    have bad : ¬ (p - p / 4 * 4 = 0 ∧ nI b ≤ p ∧ p < nI e) → StI Iv cs_Lw_at (f_Ly_at V p) (f_Mo_at M p) V 0 := by
      intro hno
      refine st_thr (V := V) (M := M) (e := 2) (k := 2) (b := 0) ?_ (by decide) (by decide) ?_ (hI.thr 2)
      · unfold f_Ly_at
        rw [ask1 l1, clT_mk, v4, v5]
        by_cases c1 : p - p / 4 * 4 = 0
        · rw [if_pos c1]
          by_cases c2 : p < nI b
          · rw [if_pos c2]
          · rw [if_neg c2, if_neg (fun z => hno ⟨c1, Int32.not_lt.mp c2, z⟩)]
        · rw [if_neg c1]
      · unfold f_Mo_at
        rw [jn_mk, if_neg l2']
        dsimp only
        rw [jn_mk, if_neg l2', within_eq, m33, m34]
        dsimp only
        by_cases c1 : p - p / 4 * 4 = 0
        · have hn : ¬ (nI b ≤ p ∧ p ≤ nI e - 1) := by
            rintro ⟨z1, z2⟩
            refine hno ⟨c1, z1, ?_⟩
            have hp0 : ¬ p < 0 := by
              intro z
              rw [Int32.le_iff_toInt_le, nI_toInt (by omega)] at z1
              rw [Int32.lt_iff_toInt_lt] at z
              have e0 : (0 : Int32).toInt = 0 := by decide
              omega
            obtain ⟨a, a1, a2⟩ := nI_of hp0
            subst a2
            exact nI_lt ((le_pred a1 (by omega)).mp z2) (by omega)
          rw [if_pos c1, cl_mk, if_neg hn, if_pos rfl, refuse_01, cl_mk, if_neg n10]
        · rw [if_neg c1, refuse_01, cl_mk, if_neg n10]
    by_cases hg : p - p / 4 * 4 = 0 ∧ nI b ≤ p ∧ p < nI e
    · obtain ⟨g1, g2, g3⟩ := hg
      have hp0 : ¬ p < 0 := by
        intro z
        rw [Int32.le_iff_toInt_le, nI_toInt (by omega)] at g2
        rw [Int32.lt_iff_toInt_lt] at z
        have e0 : (0 : Int32).toInt = 0 := by decide
        omega
      obtain ⟨a, a1, a2⟩ := nI_of hp0
      subst a2
      have hba : b ≤ a := (nI_le_iff (by omega) a1).mp g2
      have hae : a < e := (nI_lt_iff a1 (by omega)).mp g3
      have ha4 : a % 4 = 0 := by
        have em : nI a - nI a / 4 * 4 = nI (a % 4) := nI_mod (b := 4) a1 (by omega) (by omega)
        rw [em] at g1
        exact (nI_eq (b := 0) (by omega) (by omega)).mp g1
      have hL' := hL.thr 0
      obtain ⟨M', hM'⟩ : ∃ M', sw M 0 0 0 = M' := ⟨_, rfl⟩
      rw [hM'] at hL'
      have hq := hL'.q
      obtain ⟨v, w1, w2⟩ := readAt_eq hL' (a := a) (by omega) ha4
      have eC : f_Ly_at V (nI a) = some (.inl v, V) := by
        unfold f_Ly_at
        rw [ask1 l1, clT_mk, if_pos g1, v4, if_neg (Int32.not_lt.mpr g2), v5, if_pos g3, w1, cl_mk]
      have eM : f_Mo_at M (nI a) = lp_Mo_at_58 (nI a) (fun y1 V6 => ck (ib y1 96) <| ck (ib y1 96) <| ck (ib ((V6 6 y1.toNatClampNeg) + ((nI a - (V6 27 y1.toNatClampNeg)) / 4)) 100000) <| some (V6 29 ((V6 6 y1.toNatClampNeg) + ((nI a - (V6 27 y1.toNatClampNeg)) / 4)).toNatClampNeg, V6)) (fun V7 => if (V7 0 47) ≤ 0 then some (0, V7) else cl (f_Mo_within V7 (nI a) (V7 0 49) (((V7 0 49) + (8 * (V7 0 47))) - 1)) fun r5 V8 => if r5 = 0 then some (0, V8) else cl (f_Mo_islandAt V8 ((nI a - (V8 0 49)) / 8)) fun r6 V9 => if nI a = r6 then ck (ib ((nI a - (V8 0 49)) / 8) 32) <| ck (ib (V9 31 ((nI a - (V8 0 49)) / 8).toNatClampNeg) 600) <| cl (f_Mo_meaning V9 (V9 18 (V9 31 ((nI a - (V8 0 49)) / 8).toNatClampNeg).toNatClampNeg)) fun r7 V10 => ck (ib ((nI a - (V8 0 49)) / 8) 32) <| ck (ib (V10 31 ((nI a - (V8 0 49)) / 8).toNatClampNeg) 600) <| some (r7 + (V10 19 (V10 31 ((nI a - (V8 0 49)) / 8).toNatClampNeg).toNatClampNeg), V10) else some (0, V9)) FU 0 M' := by
        unfold f_Mo_at
        rw [jn_mk, if_neg l2']
        dsimp only
        rw [jn_mk, if_neg l2', if_pos g1, within_eq, m33, m34, if_pos (show nI b ≤ nI a ∧ nI a ≤ nI e - 1 from ⟨g2, (le_pred a1 (by omega)).mpr hae⟩), cl_mk, if_neg n10]
        dsimp only
        rw [refuse_00, cl_mk, if_pos rfl, hM']
      have h27 : ∀ s, s < (V1 2 0).toNatClampNeg → stg F s = true → M' 27 s = nI (adF V1 F b c s) ∧ adF V1 F b c s + (V1 17 s).toNatClampNeg ≤ 7000000 := fun s hs hst => ⟨hq.m.a s hs (stg_43 hst).1, adF_bd h hb hcl hs hst⟩
      rw [at58 (X := V) (b := b) (c := c) h hq.y a1 h27] at eM
      refine st_ok hI eC ?_
      rw [eM, hM']
      have hs1 := h.s1
      have hr1 := h.r1
      rcases w2 with ⟨s, s1, s2, s3, s4⟩ | ⟨u1, u2, u3⟩
      · have hf : (List.range ((V1 2 0).toNatClampNeg)).find? (fun s => inr V1 F b c a s && !decide (V1 16 s = 2)) = some s := by
          refine find_some_r s1 (by rw [s2, decide_eq_false s3]; rfl) (fun j hj => ?_)
          cases hh : inr V1 F b c a j with
          | false => rfl
          | true => exact absurd (inr_uniq h (by omega) s1 hh s2) (by omega)
        rw [hf]
        show ck (ib (nI s) 96) _ = _
        obtain ⟨p1, p2, p3⟩ := inr_iff.mp s2
        have hbd := adF_bd (b := b) (c := c) h hb hcl s1 p1
        have hsz := (h.sz s s1).2
        have hfw := (h.fw s s1).2 s3
        have hl1 := h.l1
        have ht1 := h.t1
        have h4 : adF V1 F b c s % 4 = 0 := by
          obtain ⟨e', e1, -, -, e4, -⟩ := al_e h s1
          unfold adF adk
          rw [stg_ldr p1 (by omega), e4]
          exact upN_4 e1
        have hk : (a - adF V1 F b c s) / 4 < (V1 17 s).toNatClampNeg / 4 := by omega
        have ed : nI (a - adF V1 F b c s) / 4 = nI ((a - adF V1 F b c s) / 4) := nI_div (b := 4) (by omega) (by omega) (by omega)
        have ei : V1 19 s + nI ((a - adF V1 F b c s) / 4) = nI ((V1 19 s).toNatClampNeg + (a - adF V1 F b c s) / 4) := by
          have := nI_add ((V1 19 s).toNatClampNeg) ((a - adF V1 F b c s) / 4)
          rw [← ib_eq (h.fw s s1).1] at this
          exact this
        rw [ib_nI (show s < 96 by omega) (by decide), ck_mk, ck_mk, cI (show s < 2 ^ 31 by omega), hq.y.m.r.fw, (h27 s s1 p1).1, nI_sub p2 (by omega), ed, ei, ib_nI (show (V1 19 s).toNatClampNeg + (a - adF V1 F b c s) / 4 < 100000 by omega) (by decide), ck_mk, cI (by omega), hL'.m s s1 p1 s3 _ hk, s4]
      · have hf : (List.range ((V1 2 0).toNatClampNeg)).find? (fun s => inr V1 F b c a s && !decide (V1 16 s = 2)) = none := by
          refine find_none_r (fun j hj => ?_)
          cases hh : inr V1 F b c a j with
          | false => rfl
          | true => rw [decide_eq_true (u1 j hj hh)]; rfl
        rw [hf]
        show (if (M' 0 47) ≤ 0 then some (0, M') else _) = _
        rw [hq.i.yc]
        by_cases c0 : c = 0
        · rw [if_pos (by rw [c0]; decide)]
          rcases u3 with ⟨z1, z2, -⟩ | ⟨-, z⟩
          · omega
          · rw [z]
        · rw [if_neg (nI_nle (by omega) (by omega)), hq.m.i (by omega)]
          have e8 : (8 : Int32) * nI c = nI (c * 8) := by
            have := nI_mul 8 c
            rw [Nat.mul_comm] at this
            exact this
          rw [e8, nI_add, within_eq, cl_mk]
          by_cases c1 : upN (t1 V1 F b) 4 ≤ a ∧ a < upN (t1 V1 F b) 4 + c * 8
          · have ed : nI (a - upN (t1 V1 F b) 4) / 8 = nI ((a - upN (t1 V1 F b) 4) / 8) := nI_div (b := 8) (by omega) (by omega) (by omega)
            have e8' : (8 : Int32) * nI ((a - upN (t1 V1 F b) 4) / 8) = nI (8 * ((a - upN (t1 V1 F b) 4) / 8)) := nI_mul 8 _
            rw [if_pos (show nI (upN (t1 V1 F b) 4) ≤ nI a ∧ nI a ≤ nI (upN (t1 V1 F b) 4 + c * 8) - 1 from ⟨nI_le c1.1 (by omega), (le_pred (by omega) (by omega)).mpr c1.2⟩), if_neg n10]
            unfold f_Mo_islandAt
            rw [hq.m.i (by omega), nI_sub c1.1 (by omega), ed, cl_mk, e8', nI_add]
            rcases u3 with ⟨z1, z2, z3, r, r1, r2, r3, r4⟩ | ⟨z1, z2⟩
            · obtain ⟨y1, -, y3⟩ := dY_lt h r1
              rw [if_pos (show nI a = nI (upN (t1 V1 F b) 4 + 8 * ((a - upN (t1 V1 F b) 4) / 8)) by congr 1; omega), ib_nI (show (a - upN (t1 V1 F b) 4) / 8 < 32 by omega) (by decide), ck_mk, cI (by omega), r2, ib_nI (show r < 600 by omega) (by decide), ck_mk, cI (by omega), hq.y.m.r.ry, y3, meaning_eq h hL'.t hq.x hq.y hq.ad y1 (hL'.t.a r r1 r3) (hL'.t.r r r1 r3).1 (hL'.t.r r r1 r3).2, cl_mk, ck_mk, r2, ib_nI (show r < 600 by omega) (by decide), ck_mk, cI (by omega), hq.y.m.r.ra, r4]
              rfl
            · rw [if_neg (show ¬ nI a = nI (upN (t1 V1 F b) 4 + 8 * ((a - upN (t1 V1 F b) 4) / 8)) from fun z => z1 ⟨c1.1, c1.2, by have := (nI_eq (by omega) (by omega)).mp z; omega⟩), z2]
          · rw [if_neg (show ¬ (nI (upN (t1 V1 F b) 4) ≤ nI a ∧ nI a ≤ nI (upN (t1 V1 F b) 4 + c * 8) - 1) from fun z => c1 ⟨(nI_le_iff (by omega) (by omega)).mp z.1, (le_pred (by omega) (by omega)).mp z.2⟩), if_pos rfl]
            rcases u3 with ⟨z1, z2, -⟩ | ⟨-, z⟩
            · exact absurd ⟨z1, z2⟩ c1
            · rw [z]
    · exact bad hg
