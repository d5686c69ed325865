/-! The class's search for what is reached, whole. -/
theorem Rl_at {V : Sto} {s r : Nat} (hr : r < (V 4 0).toNatClampNeg) (hs : sec V r = s) : ∃ k, k < (Rl V ((V 4 0).toNatClampNeg) s).length ∧ (Rl V ((V 4 0).toNatClampNeg) s).getD k 0 = r := by
  obtain ⟨k, hk, he⟩ := List.getElem_of_mem (Rl_mem.mpr ⟨hr, hs⟩)
  refine ⟨k, hk, ?_⟩
  rw [List.getD_eq_getElem?_getD, List.getElem?_eq_getElem hk, he]
  rfl
theorem RI.set44 {V W X : Sto} {A : Nat → Bool} {d n : Nat} (hX : RI V A W d X) (hc : CR V A W n) : RI V A W d (sw X 44 n 1) := by
  have e : ∀ q, q ≠ 44 → sw X 44 n 1 q = X q := fun q hq => sw_ne hq
  have ec : cnt (sw X 44 n 1) = cnt X := by unfold cnt; rw [e 43 (by decide)]
  have e44 : ∀ m, sw X 44 n 1 44 m = if m = n then 1 else X 44 m := fun m => sw_at _ _ _ _ _
  refine ⟨by rw [e 7 (by decide), ec]; exact hX.f, by rw [ec]; exact hX.dl, ?_, ?_, fun m hm => ?_, ?_, fun j hj r hr he hm => ?_⟩
  · rw [ec, e 45 (by decide), e 43 (by decide)]; exact hX.q
  · rw [ec, e 45 (by decide), e 43 (by decide)]; exact hX.r
  · rw [e44]
    by_cases c : m = n
    · subst c; rw [if_pos rfl]; exact Or.inr ⟨rfl, hc⟩
    · rw [if_neg c]; exact hX.c m hm
  · rw [e 45 (by decide), e 43 (by decide)]; exact hX.d1
  · rw [e 45 (by decide)] at he
    rw [e44]
    by_cases c : (W 41 (dY V r)).toNatClampNeg = n
    · rw [if_pos c]
    · rw [if_neg c]; exact hX.d3 j hj r hr he hm
theorem Gr.set44 {X : Sto} {n : Nat} : Gr X (sw X 44 n 1) := by
  have e : ∀ q, q ≠ 44 → sw X 44 n 1 q = X q := fun q hq => sw_ne hq
  have ec : cnt (sw X 44 n 1) = cnt X := by unfold cnt; rw [e 43 (by decide)]
  refine ⟨by rw [ec]; exact Nat.le_refl _, fun j hj => by rw [e 45 (by decide)], fun s hs => by rw [e 43 (by decide)]; exact hs, fun m hm => ?_⟩
  rw [sw_at]
  by_cases c : m = n
  · rw [if_pos c]
  · rw [if_neg c]; exact hm
theorem spreadFrom_eq {V W X : Sto} (h : WF V) {A : Nat → Bool} (hN : N1 V A ((V 3 0).toNatClampNeg) W) (hF : MFs V A W) (hd : Dat V X) (hq : OrdQ V X) (h40 : X 40 = W 40) (h41 : X 41 = W 41) {d : Nat} (hX : RI V A W d X) (hdl : d < cnt X) {s : Nat} (hs : s < (V 2 0).toNatClampNeg) (he : X 45 d = nI s) (hR : Rch V A W s) : ∃ Y, f_Rc_spreadFrom X (nI s) = some (0, Y) ∧ Only [7, 43, 44, 45] X Y ∧ RI V A W (d + 1) Y ∧ Gr X Y := by
  have hs1 := h.s1
  have hr1 := h.r1
  have hy1 := h.y1
  have hlen := Nat.le_trans (Nat.le_add_left _ _) (show stt V s + (Rl V ((V 4 0).toNatClampNeg) s).length ≤ (V 4 0).toNatClampNeg from stt_le V (s + 1))
  unfold f_Rc_spreadFrom
  refine forK (L := lp_Rc_spreadFrom_2 (nI s) (fun V5 => some (0, V5))) (N := (Rl V ((V 4 0).toNatClampNeg) s).length) (Inv := fun k Y => Only [7, 43, 44, 45] X Y ∧ RI V A W d Y ∧ Gr X Y ∧ ∀ j, j < k → (W 40 (dY V ((Rl V ((V 4 0).toNatClampNeg) s).getD j 0)) = 1 → Y 43 ((W 41 (dY V ((Rl V ((V 4 0).toNatClampNeg) s).getD j 0))).toNatClampNeg) = 1) ∧ (W 40 (dY V ((Rl V ((V 4 0).toNatClampNeg) s).getD j 0)) = 3 → Y 44 ((W 41 (dY V ((Rl V ((V 4 0).toNatClampNeg) s).getD j 0))).toNatClampNeg) = 1)) (Q := fun r => ∃ Y, r = some (0, Y) ∧ Only [7, 43, 44, 45] X Y ∧ RI V A W (d + 1) Y ∧ Gr X Y) (by omega) ?_ ?_ 0 X (Nat.zero_le _) ⟨Only.refl, hX, Gr.refl, fun j hj => absurd hj (Nat.not_lt_zero _)⟩
  · rintro m k Y hk ⟨y1, y2, y3, y4⟩ ih
    have hdY : Dat V Y := hd.only y1 (by decide)
    have hqY : OrdQ V Y := hq.keep (y1 32 (by decide)) (y1 33 (by decide))
    obtain ⟨r, hr⟩ : ∃ r, (Rl V ((V 4 0).toNatClampNeg) s).getD k 0 = r := ⟨_, rfl⟩
    have hrl := Rl_lt hk
    rw [hr] at hrl
    obtain ⟨hrl, hrs⟩ := hrl
    obtain ⟨yl, yu, ye⟩ := dY_lt h hrl
    have hA : A (dU V (dY V r)) = true := by
      rw [yu, hrs]
      exact (hR.inn h hN hF).2
    have e40 : Y 40 = W 40 := by rw [y1 40 (by decide), h40]
    have e41 : Y 41 = W 41 := by rw [y1 41 (by decide), h41]
    rw [lp_Rc_spreadFrom_2, countOf_eq h hqY hs, cl_mk, if_neg (nI_ge hk (by omega)), pick_eq h hqY hs hk, cl_mk, hr, ib_nI (show r < 600 by omega) (by decide), cI (show r < 2 ^ 31 by omega), hdY 30 rfl, ye, ib_nI (show dY V r < 400 by omega) (by decide), cI (show dY V r < 2 ^ 31 by omega), e40, e41, nI1]
    simp only [ck_mk, nm_mk]
    have old : ∀ Z, Gr Y Z → (W 40 (dY V r) = 1 → Z 43 ((W 41 (dY V r)).toNatClampNeg) = 1) → (W 40 (dY V r) = 3 → Z 44 ((W 41 (dY V r)).toNatClampNeg) = 1) → ∀ j, j < k + 1 → (W 40 (dY V ((Rl V ((V 4 0).toNatClampNeg) s).getD j 0)) = 1 → Z 43 ((W 41 (dY V ((Rl V ((V 4 0).toNatClampNeg) s).getD j 0))).toNatClampNeg) = 1) ∧ (W 40 (dY V ((Rl V ((V 4 0).toNatClampNeg) s).getD j 0)) = 3 → Z 44 ((W 41 (dY V ((Rl V ((V 4 0).toNatClampNeg) s).getD j 0))).toNatClampNeg) = 1) := by
      intro Z hZ z1 z2 j hj
      by_cases e : j = k
      · subst e; rw [hr]; exact ⟨z1, z2⟩
      · exact ⟨fun z => hZ.r _ ((y4 j (by omega)).1 z), fun z => hZ.n _ ((y4 j (by omega)).2 z)⟩
    have hRr : Rch V A W (sec V r) := by rw [hrs]; exact hR
    rcases hF _ yl hA with ⟨e, -⟩ | ⟨e, e2, e3⟩ | ⟨e, -⟩ | ⟨e, e2, e3, e4⟩
    · rw [e, if_neg (by decide), if_neg (by decide)]
      exact ih Y ⟨y1, y2, y3, old Y Gr.refl (fun z => by rw [e] at z; exact absurd z (by decide)) (fun z => by rw [e] at z; exact absurd z (by decide))⟩
    · rw [if_pos e]
      obtain ⟨Z, z1, z2, z3, z4, z5⟩ := find_eq h y2 (ib_lt e2) (Rch.step hrl hRr e)
      rw [show nI ((W 41 (dY V r)).toNatClampNeg) = W 41 (dY V r) from (ib_eq e2).symm] at z1
      rw [z1, cl_mk]
      exact ih Z ⟨y1.trans (z2.mono (by decide)), z3, y3.trans z5, old Z z5 (fun _ => z4) (fun z => by rw [e] at z; exact absurd z (by decide))⟩
    · rw [e, if_neg (by decide), if_neg (by decide)]
      exact ih Y ⟨y1, y2, y3, old Y Gr.refl (fun z => by rw [e] at z; exact absurd z (by decide)) (fun z => by rw [e] at z; exact absurd z (by decide))⟩
    · rw [if_neg (by rw [e]; decide), if_pos e, e2, h.yn _ yl, ck_mk]
      refine ih _ ⟨y1.sw (by decide), y2.set44 ⟨r, hrl, hRr, e, by rw [e2]⟩, y3.trans Gr.set44, old _ Gr.set44 (fun z => by rw [e] at z; exact absurd z (by decide)) (fun _ => ?_)⟩
      rw [sw_at, e2, if_pos rfl]
  · rintro m Y ⟨y1, y2, y3, y4⟩
    have hqY : OrdQ V Y := hq.keep (y1 32 (by decide)) (y1 33 (by decide))
    rw [lp_Rc_spreadFrom_2, countOf_eq h hqY hs, cl_mk, if_pos (nI_le (Nat.le_refl _) (by omega))]
    have hc := y3.c
    have e45 : Y 45 d = nI s := by rw [y3.q d hdl]; exact he
    have new : ∀ r, r < (V 4 0).toNatClampNeg → Y 45 d = nI (sec V r) → ∃ k, k < (Rl V ((V 4 0).toNatClampNeg) s).length ∧ (Rl V ((V 4 0).toNatClampNeg) s).getD k 0 = r := by
      intro r hr hh
      rw [e45] at hh
      have := (nI_eq (by omega) (by have := (sec_lt h hr).1; omega)).mp hh
      exact Rl_at hr this.symm
    refine ⟨Y, rfl, y1, ⟨y2.f, by omega, y2.q, y2.r, y2.c, fun j hj r hr hh hm => ?_, fun j hj r hr hh hm => ?_⟩, y3⟩
    · by_cases c : j = d
      · subst c
        obtain ⟨k, k1, k2⟩ := new r hr hh
        have := (y4 k k1).1
        rw [k2] at this
        exact this hm
      · exact y2.d1 j (by omega) r hr hh hm
    · by_cases c : j = d
      · subst c
        obtain ⟨k, k1, k2⟩ := new r hr hh
        have := (y4 k k1).2
        rw [k2] at this
        exact this hm
      · exact y2.d3 j (by omega) r hr hh hm
def RS (V : Sto) (A : Nat → Bool) (W Y : Sto) : Prop :=
  (∀ s, s < 96 → (Y 43 s = 1 ∧ Rch V A W s) ∨ (Y 43 s = 0 ∧ ¬ Rch V A W s)) ∧
  (∀ n, n < 200 → (Y 44 n = 1 ∧ CR V A W n) ∨ (Y 44 n = 0 ∧ ¬ CR V A W n)) ∧
  (Y 7 6 = nI (cnt Y))
theorem RS.r {V : Sto} {A : Nat → Bool} {W Y : Sto} (h : RS V A W Y) : ∀ s, s < 96 → (Y 43 s = 1 ∧ Rch V A W s) ∨ (Y 43 s = 0 ∧ ¬ Rch V A W s) := h.1
theorem RS.c {V : Sto} {A : Nat → Bool} {W Y : Sto} (h : RS V A W Y) : ∀ n, n < 200 → (Y 44 n = 1 ∧ CR V A W n) ∨ (Y 44 n = 0 ∧ ¬ CR V A W n) := h.2.1
theorem RS.f {V : Sto} {A : Nat → Bool} {W Y : Sto} (h : RS V A W Y) : Y 7 6 = nI (cnt Y) := h.2.2
theorem forget_eq (X : Sto) : ∃ Y, f_Rc_forget X = some (0, Y) ∧ Only [7, 43, 44] X Y ∧ (∀ s, s < 96 → Y 43 s = 0) ∧ (∀ n, n < 200 → Y 44 n = 0) ∧ Y 7 6 = 0 := by
  unfold f_Rc_forget
  have l2 : ∀ T : Sto, Only [43] X T → (∀ s, s < 96 → T 43 s = 0) → ∃ Y, lp_Rc_forget_23 (fun V4 => nm (sw V4 7 6 0) fun V5 => some (0, V5)) FU 0 T = some (0, Y) ∧ Only [7, 43, 44] X Y ∧ (∀ s, s < 96 → Y 43 s = 0) ∧ (∀ n, n < 200 → Y 44 n = 0) ∧ Y 7 6 = 0 := by
    intro T hT h0
    refine forK (L := lp_Rc_forget_23 (fun V4 => nm (sw V4 7 6 0) fun V5 => some (0, V5))) (N := 200) (Inv := fun i Y => Only [44] T Y ∧ ∀ n, n < i → Y 44 n = 0) (Q := fun r => ∃ Y, r = some (0, Y) ∧ Only [7, 43, 44] X Y ∧ (∀ s, s < 96 → Y 43 s = 0) ∧ (∀ n, n < 200 → Y 44 n = 0) ∧ Y 7 6 = 0) (by decide) ?_ ?_ 0 T (Nat.zero_le _) ⟨Only.refl, fun j hj => absurd hj (Nat.not_lt_zero _)⟩
    · rintro n i S hi ⟨h1, h2⟩ ih
      rw [lp_Rc_forget_23, if_neg (show ¬ (200 : Int32) ≤ nI i from nI_ge (b := 200) hi (by decide)), ib_nI hi (by decide), ck_mk, nm_mk, cI (by omega), nI1]
      refine ih _ ⟨h1.sw (by decide), fun j hj => ?_⟩
      rw [sw_at]
      by_cases e : j = i
      · rw [if_pos e]
      · rw [if_neg e]; exact h2 j (by omega)
    · rintro n S ⟨h1, h2⟩
      rw [lp_Rc_forget_23, if_pos (show (200 : Int32) ≤ nI 200 from nI_le (Nat.le_refl _) (by decide)), nm_mk]
      refine ⟨_, rfl, Only.sw (by decide) ((hT.mono (by decide)).trans (h1.mono (by decide))), fun s hs => ?_, fun n hn => ?_, by rw [sw_at, if_pos rfl]⟩
      · rw [sw_ne (by decide), h1 43 (by decide)]; exact h0 s hs
      · rw [sw_ne (by decide)]; exact h2 n hn
  obtain ⟨K, hK⟩ : ∃ K : Sto → RT, (fun V2 => lp_Rc_forget_23 (fun V4 => nm (sw V4 7 6 0) fun V5 => some (0, V5)) FU 0 V2) = K := ⟨_, rfl⟩
  rw [hK]
  have l2' : ∀ T : Sto, Only [43] X T → (∀ s, s < 96 → T 43 s = 0) → ∃ Y, K T = some (0, Y) ∧ Only [7, 43, 44] X Y ∧ (∀ s, s < 96 → Y 43 s = 0) ∧ (∀ n, n < 200 → Y 44 n = 0) ∧ Y 7 6 = 0 := by
    rw [← hK]; exact l2
  refine forK (L := lp_Rc_forget_2 K) (N := 96) (Inv := fun i Y => Only [43] X Y ∧ ∀ n, n < i → Y 43 n = 0) (Q := fun r => ∃ Y, r = some (0, Y) ∧ Only [7, 43, 44] X Y ∧ (∀ s, s < 96 → Y 43 s = 0) ∧ (∀ n, n < 200 → Y 44 n = 0) ∧ Y 7 6 = 0) (by decide) ?_ ?_ 0 X (Nat.zero_le _) ⟨Only.refl, fun j hj => absurd hj (Nat.not_lt_zero _)⟩
  · rintro n i S hi ⟨h1, h2⟩ ih
    rw [lp_Rc_forget_2, if_neg (show ¬ (96 : Int32) ≤ nI i from nI_ge hi (by decide)), ib_nI hi (by decide), ck_mk, nm_mk, cI (by omega), nI1]
    refine ih _ ⟨h1.sw (by decide), fun j hj => ?_⟩
    rw [sw_at]
    by_cases e : j = i
    · rw [if_pos e]
    · rw [if_neg e]; exact h2 j (by omega)
  · rintro n S ⟨h1, h2⟩
    rw [lp_Rc_forget_2, if_pos (show (96 : Int32) ≤ nI 96 from nI_le (Nat.le_refl _) (by decide))]
    exact l2' S h1 h2
theorem spread_eq {V W X : Sto} (h : WF V) {A : Nat → Bool} (hN : N1 V A ((V 3 0).toNatClampNeg) W) (hF : MFs V A W) (hd : Dat V X) (hq : OrdQ V X) (h40 : X 40 = W 40) (h41 : X 41 = W 41) (hin : ∀ u, u < (V 1 0).toNatClampNeg → X 13 u = b2 (A u)) : ∃ Y, f_Rc_spread X (entS V W) = some (0, Y) ∧ Only [7, 43, 44, 45] X Y ∧ RS V A W Y := by
  have hs1 := h.s1
  have hu1 := h.u1
  obtain ⟨F, f1, f2, f3, f4, f5⟩ := forget_eq X
  have cF : cnt F = 0 := by
    unfold cnt
    rw [List.countP_eq_zero]
    intro s hs
    rw [f3 s (List.mem_range.mp hs)]
    decide
  have rF : RI V A W 0 F := ⟨by rw [f5, cF]; rfl, Nat.zero_le _, fun j hj => by rw [cF] at hj; exact absurd hj (Nat.not_lt_zero _), fun s hs => Or.inl (f3 s hs), fun n hn => Or.inl (f4 n hn), fun j hj => absurd hj (Nat.not_lt_zero _), fun j hj => absurd hj (Nat.not_lt_zero _)⟩
  unfold f_Rc_spread
  rw [f1]
  simp only [cl_mk, jn_mk]
  -- the queue
  have l3 : ∀ T : Sto, Only [7, 43, 44, 45] X T → RI V A W 0 T → (∀ s, rtS V A W s → T 43 s = 1) → ∃ Y, lp_Rc_spread_72 (fun V7 => some (0, V7)) FU 0 T = some (0, Y) ∧ Only [7, 43, 44, 45] X Y ∧ RS V A W Y := by
    intro T hT hR hroot
    have key := loopK (σ := Nat × Sto) (L := fun n p => lp_Rc_spread_72 (fun V7 => some (0, V7)) n (nI p.1) p.2) (Inv := fun m p => m + p.1 = 97 ∧ Only [7, 43, 44, 45] X p.2 ∧ RI V A W p.1 p.2 ∧ (∀ s, rtS V A W s → p.2 43 s = 1)) (Q := fun r => ∃ Y, r = some (0, Y) ∧ Only [7, 43, 44, 45] X Y ∧ RS V A W Y) (by
      rintro n m ⟨d, Y⟩ ⟨hm, y1, y2, y3⟩ ih
      simp only at hm y1 y2 y3
      show ∃ Z, lp_Rc_spread_72 (fun V7 => some (0, V7)) (n + 1) (nI d) Y = _ ∧ _
      have hdY : Dat V Y := hd.only y1 (by decide)
      have hqY : OrdQ V Y := hq.keep (y1 32 (by decide)) (y1 33 (by decide))
      have hcl := cnt_le Y
      have hdl := y2.dl
      rw [lp_Rc_spread_72, y2.f]
      by_cases c : cnt Y ≤ d
      · rw [if_pos (nI_le c (by omega))]
        have hcl0 : clo V W (fun s => s < (V 2 0).toNatClampNeg ∧ Y 43 s = 1) := by
          rintro r hr ⟨r1, r2⟩ hm
          rcases y2.r (sec V r) (by omega) with e | ⟨e1, e2, j, e3, e4⟩
          · rw [e] at r2; exact absurd r2 (by decide)
          · exact ⟨((Rch.step hr e2 hm).inn h hN hF).1, y2.d1 j (by omega) r hr e4 hm⟩
        have hall : ∀ s, Rch V A W s → Y 43 s = 1 := fun s hs => (hs (fun s => s < (V 2 0).toNatClampNeg ∧ Y 43 s = 1) (fun t ht => ⟨((Rch.root ht).inn h hN hF).1, y3 t ht⟩) hcl0).2
        refine ⟨Y, rfl, y1, fun s hs => ?_, fun k hk => ?_, y2.f⟩
        · rcases y2.r s hs with e | ⟨e1, e2, -⟩
          · exact Or.inr ⟨e, fun z => by rw [hall s z] at e; exact absurd e (by decide)⟩
          · exact Or.inl ⟨e1, e2⟩
        · rcases y2.c k hk with e | ⟨e1, e2⟩
          · refine Or.inr ⟨e, ?_⟩
            rintro ⟨r, r1, r2, r3, r4⟩
            have r5 := hall _ r2
            rcases y2.r (sec V r) (by have := (sec_lt h r1).1; omega) with g | ⟨g1, g2, j, g3, g4⟩
            · rw [g] at r5; exact absurd r5 (by decide)
            · have := y2.d3 j (by omega) r r1 g4 r3
              rw [r4, e] at this
              exact absurd this (by decide)
          · exact Or.inl ⟨e1, e2⟩
      · rw [if_neg (nI_ge (by omega) (by omega)), if_neg (show ¬ (96 : Int32) ≤ nI d from nI_ge (b := 96) (by omega) (by omega)), ib_nI (show d < 96 by omega) (by decide), ck_mk, cI (by omega), nI1]
        obtain ⟨s, s1, s2, s3⟩ := y2.q d (by omega)
        have hRs : Rch V A W s := by
          rcases y2.r s (by omega) with e | ⟨-, e, -⟩
          · rw [e] at s3; exact absurd s3 (by decide)
          · exact e
        obtain ⟨Z, z1, z2, z3, z4⟩ := spreadFrom_eq h hN hF hdY hqY (by rw [y1 40 (by decide), h40]) (by rw [y1 41 (by decide), h41]) y2 (by omega) s1 s2 hRs
        rw [s2, z1, cl_mk]
        exact ih (m - 1) (d + 1, Z) (by omega) ⟨by show m - 1 + (d + 1) = 97; omega, y1.trans z2, z3, fun t ht => z4.r t (y3 t ht)⟩) 97 FU (0, T) ⟨rfl, hT, hR, hroot⟩ (by unfold FU; omega)
    exact key
  obtain ⟨K3, hK3⟩ : ∃ K : Sto → RT, (fun V5 => lp_Rc_spread_72 (fun V7 => some (0, V7)) FU 0 V5) = K := ⟨_, rfl⟩
  rw [hK3]
  have l3' : ∀ T : Sto, Only [7, 43, 44, 45] X T → RI V A W 0 T → (∀ s, rtS V A W s → T 43 s = 1) → ∃ Y, K3 T = some (0, Y) ∧ Only [7, 43, 44, 45] X Y ∧ RS V A W Y := by
    rw [← hK3]; exact l3
  have l2 : ∀ T : Sto, Only [7, 43, 44, 45] X T → RI V A W 0 T → (∀ s, s < (V 2 0).toNatClampNeg → entS V W = nI s → T 43 s = 1) → ∃ Y, lp_Rc_spread_16 K3 FU 0 T = some (0, Y) ∧ Only [7, 43, 44, 45] X Y ∧ RS V A W Y := by
    intro T hT hR hE
    refine forK (L := lp_Rc_spread_16 K3) (N := (V 2 0).toNatClampNeg) (Inv := fun i Y => Only [7, 43, 44, 45] X Y ∧ RI V A W 0 Y ∧ (∀ s, s < (V 2 0).toNatClampNeg → entS V W = nI s → Y 43 s = 1) ∧ ∀ s, s < i → ¬ V 20 s = 0 → A ((V 15 s).toNatClampNeg) = true → Y 43 s = 1) (Q := fun r => ∃ Y, r = some (0, Y) ∧ Only [7, 43, 44, 45] X Y ∧ RS V A W Y) (by omega) ?_ ?_ 0 T (Nat.zero_le _) ⟨hT, hR, hE, fun j hj => absurd hj (Nat.not_lt_zero _)⟩
    · rintro n i Y hi ⟨y1, y2, y3, y4⟩ ih
      have hdY : Dat V Y := hd.only y1 (by decide)
      have e13 : Y 13 (V 15 i).toNatClampNeg = b2 (A ((V 15 i).toNatClampNeg)) := by rw [y1 13 (by decide)]; exact hin _ (ib_lt (h.su i hi))
      rw [lp_Rc_spread_16, hdY 2 rfl, if_neg (fun z => by have := (le_cnt h.s0 (by omega)).mp z; omega), ib_nI (show i < 96 by omega) (by decide), cI (by omega), hdY 20 rfl, hdY 15 rfl, ib_mono (h.su i hi) hu1, e13, nI1]
      simp only [ck_mk]
      have skip : (¬ V 20 i = 0 → A ((V 15 i).toNatClampNeg) = true → False) → ∃ Z, lp_Rc_spread_16 K3 n (nI (i + 1)) Y = some (0, Z) ∧ Only [7, 43, 44, 45] X Z ∧ RS V A W Z := fun hf => ih Y ⟨y1, y2, y3, fun s hs h1 h2 => by
        by_cases e : s = i
        · subst e; exact absurd h2 (fun z => hf h1 z)
        · exact y4 s (by omega) h1 h2⟩
      by_cases c : V 20 i = 0
      · rw [if_pos c]
        exact skip (fun z => absurd c z)
      · rw [if_neg c]
        cases hA : A ((V 15 i).toNatClampNeg) with
        | false =>
          rw [if_pos b2f]
          exact skip (fun _ z => by rw [hA] at z; cases z)
        | true =>
          rw [if_neg b2t]
          obtain ⟨Z, z1, z2, z3, z4, z5⟩ := find_eq h y2 hi (Rch.root (Or.inl ⟨hi, c, hA⟩))
          rw [z1, cl_mk]
          refine ih Z ⟨y1.trans (z2.mono (by decide)), z3, fun s h1 h2 => z5.r s (y3 s h1 h2), fun s hs h1 h2 => ?_⟩
          by_cases e : s = i
          · rw [e]; exact z4
          · exact z5.r s (y4 s (by omega) h1 h2)
    · rintro n Y ⟨y1, y2, y3, y4⟩
      have hdY : Dat V Y := hd.only y1 (by decide)
      rw [lp_Rc_spread_16, hdY 2 rfl, if_pos ((le_cnt h.s0 (by omega)).mpr (Nat.le_refl _))]
      refine l3' Y y1 y2 (fun s hs => ?_)
      rcases hs with ⟨s1, s2, s3⟩ | ⟨s1, s2⟩
      · exact y4 s s1 s2 s3
      · exact y3 s s1 s2
  rcases ent_ok h hN with e | ⟨s, e1, e2, e3⟩
  · rw [if_pos e]
    exact l2 F (f2.mono (by decide)) rF (fun s hs z => absurd (e.symm.trans z).symm (m1_ne s (by omega)))
  · rw [e2, if_neg (m1_ne s (by omega))]
    obtain ⟨Z, z1, z2, z3, z4, z5⟩ := find_eq h rF e1 (Rch.root (Or.inr ⟨e1, e2⟩))
    rw [z1, cl_mk]
    refine l2 Z ((f2.mono (by decide)).trans (z2.mono (by decide))) z3 (fun t ht z => ?_)
    rw [e2] at z
    have := (nI_eq (by omega) (by omega)).mp z
    subst this
    exact z4
/-- a relocation of something reached that means nothing -/
def misP (W : Sto) (V : Sto) (r : Nat) : Bool := decide (W 43 (sec V r) = 1) && decide (W 40 (dY V r) = 0)
theorem firstMissing_eq {V A W Y} (h : WF V) (hd : Dat V Y) (hq : OrdQ V Y) (hR : RS V A W Y) : f_Rc_firstMissing Y = some (fnd V (misP Y V), Y) := by
  have hr1 := h.r1
  have hy1 := h.y1
  have hs1 := h.s1
  have key := searchC h hq (L := lp_Rc_firstMissing_2 (fun y1 V1 => some (y1, V1)) (fun V2 => some ((-1), V2))) (P := misP Y V) (kf := fun y1 V1 => some (y1, V1)) (kn := fun V2 => some ((-1), V2)) (by
    intro n i r hi h32 hr hs
    obtain ⟨yl, yu, ye⟩ := dY_lt h hr
    obtain ⟨sl, se⟩ := sec_lt h hr
    rw [lp_Rc_firstMissing_2, hd 4 rfl, if_neg (fun z => by have := (le_cnt h.r0 (by omega)).mp z; omega), ib_nI (show i < 600 by omega) (by decide), cI (show i < 2 ^ 31 by omega), h32, ib_nI (show r < 600 by omega) (by decide), cI (show r < 2 ^ 31 by omega), hd 27 rfl, hd 30 rfl, se, ye, ib_nI (show sec V r < 96 by omega) (by decide), ib_nI (show dY V r < 400 by omega) (by decide), cI (show sec V r < 2 ^ 31 by omega), cI (show dY V r < 2 ^ 31 by omega), nI1]
    simp only [ck_mk]
    unfold misP
    rcases hR.r (sec V r) (by omega) with ⟨e, -⟩ | ⟨e, -⟩
    · rw [if_neg (by rw [e]; decide), decide_eq_true e, Bool.true_and]
      by_cases c : Y 40 (dY V r) = 0
      · rw [if_pos c, decide_eq_true c, if_pos rfl]
      · rw [if_neg c, decide_eq_false c, if_neg (by decide)]
    · rw [if_pos e, decide_eq_false (by rw [e]; decide), Bool.false_and, if_neg (by decide)]) (by
    intro n
    rw [lp_Rc_firstMissing_2, hd 4 rfl, if_pos ((le_cnt h.r0 (by omega)).mpr (Nat.le_refl _))])
  unfold f_Rc_firstMissing
  refine Eq.trans key ?_
  unfold fnd
  cases (ord V).find? (misP Y V) <;> rfl
