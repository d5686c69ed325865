/-! What a link is about. -/
theorem cntK {ρ : Type} {L : Nat → Int32 → Nat → ρ} {P : Nat → Bool} {N : Nat} {k : Int32 → ρ} (hN : N < 900000) (hs : ∀ n x i, i < N → L (n + 1) x i = if P i = true then L n (x + 1) (i + 1) else L n x (i + 1)) (he : ∀ n x, L (n + 1) x N = k x) : L FU 0 0 = k (nI ((List.range N).countP P)) := by
  refine forN (σ := Int32) (L := fun n i x => L n x i) (Inv := fun i x => x = nI ((List.range i).countP P)) (Q := fun r => r = k (nI ((List.range N).countP P))) hN ?_ ?_ 0 0 (Nat.zero_le _) rfl
  · rintro n i x hi hx ih
    show L (n + 1) x i = _
    rw [hs n x i hi]
    have e : (List.range (i + 1)).countP P = (List.range i).countP P + (if P i = true then 1 else 0) := by
      rw [List.range_succ, List.countP_append, List.countP_singleton]
    by_cases c : P i = true
    · rw [if_pos c] at e
      rw [if_pos c]
      exact ih (x + 1) (by rw [e, hx, nI1])
    · rw [if_neg c] at e
      rw [if_neg c]
      exact ih x (by rw [e, hx]; rfl)
  · rintro n x hx
    show L (n + 1) x N = _
    rw [he n x, hx]
theorem countIn_eq {V : Sto} (h : WF V) {A : Nat → Bool} (hi : ∀ u, u < (V 1 0).toNatClampNeg → V 13 u = b2 (A u)) : f_Un_countIn V = some (nI ((List.range ((V 1 0).toNatClampNeg)).countP A), V) := by
  have hu1 := h.u1
  unfold f_Un_countIn
  have key := cntK (L := fun n x i => lp_Un_countIn_4 (fun y1 V1 => some (y1, V1)) n x (nI i) V) (P := A) (N := (V 1 0).toNatClampNeg) (k := fun x => some (x, V)) (by omega) (by
    intro n x i hi2
    show lp_Un_countIn_4 (fun y1 V1 => some (y1, V1)) (n + 1) x (nI i) V = if A i = true then lp_Un_countIn_4 (fun y1 V1 => some (y1, V1)) n (x + 1) (nI (i + 1)) V else lp_Un_countIn_4 (fun y1 V1 => some (y1, V1)) n x (nI (i + 1)) V
    rw [lp_Un_countIn_4, if_neg (fun z => by have := (le_cnt h.u0 (by omega)).mp z; omega), ib_nI (show i < 24 by omega) (by decide), ck_mk, cI (by omega), hi i hi2, nI1]
    cases A i with
    | false => rw [if_pos b2f, if_neg (by decide)]
    | true => rw [if_neg b2t, if_pos rfl]) (by
    intro n x
    show lp_Un_countIn_4 (fun y1 V1 => some (y1, V1)) (n + 1) x (nI ((V 1 0).toNatClampNeg)) V = some (x, V)
    rw [lp_Un_countIn_4, if_pos ((le_cnt h.u0 (by omega)).mpr (Nat.le_refl _))])
  exact key
theorem countFolded_eq {V F : Sto} (h : WF V) (h46 : V 46 = F 46) : f_Fo_countFolded V = some (nI ((List.range ((V 2 0).toNatClampNeg)).countP (fun s => !decide (F 46 s = nI s))), V) := by
  have hs1 := h.s1
  unfold f_Fo_countFolded
  have key := cntK (L := fun n x i => lp_Fo_countFolded_4 (fun y1 V2 => some (y1, V2)) n x (nI i) V) (P := fun s => !decide (F 46 s = nI s)) (N := (V 2 0).toNatClampNeg) (k := fun x => some (x, V)) (by omega) (by
    intro n x i hi2
    show lp_Fo_countFolded_4 (fun y1 V2 => some (y1, V2)) (n + 1) x (nI i) V = if (!decide (F 46 i = nI i)) = true then lp_Fo_countFolded_4 (fun y1 V2 => some (y1, V2)) n (x + 1) (nI (i + 1)) V else lp_Fo_countFolded_4 (fun y1 V2 => some (y1, V2)) n x (nI (i + 1)) V
    rw [lp_Fo_countFolded_4, if_neg (fun z => by have := (le_cnt h.s0 (by omega)).mp z; omega), isFolded_eq h46 (by omega), cl_mk, nI1]
    cases (!decide (F 46 i = nI i)) with
    | false => rw [if_pos b2f, if_neg (by decide)]
    | true => rw [if_neg b2t, if_pos rfl]) (by
    intro n x
    show lp_Fo_countFolded_4 (fun y1 V2 => some (y1, V2)) (n + 1) x (nI ((V 2 0).toNatClampNeg)) V = some (x, V)
    rw [lp_Fo_countFolded_4, if_pos ((le_cnt h.s0 (by omega)).mpr (Nat.le_refl _))])
  exact key
theorem ab90 {V F M : Sto} (h : WF V) (hM : MX V F M) : lp_Mo_about_90 (fun y1 V4 => some (y1, V4)) FU 0 0 M = some (nI ((List.range ((V 1 0).toNatClampNeg)).countP (inS V)), M) := by
  have hu1 := h.u1
  have key := cntK (L := fun n x i => lp_Mo_about_90 (fun y1 V4 => some (y1, V4)) n x (nI i) M) (P := inS V) (N := (V 1 0).toNatClampNeg) (k := fun x => some (x, M)) (by omega) (by
    intro n x i hi2
    show lp_Mo_about_90 (fun y1 V4 => some (y1, V4)) (n + 1) x (nI i) M = if inS V i = true then lp_Mo_about_90 (fun y1 V4 => some (y1, V4)) n (x + 1) (nI (i + 1)) M else lp_Mo_about_90 (fun y1 V4 => some (y1, V4)) n x (nI (i + 1)) M
    rw [lp_Mo_about_90, hM.m.r.u0, if_neg (fun z => by have := (le_cnt h.u0 (by omega)).mp z; omega), ib_nI (show i < 24 by omega) (by decide), ck_mk, cI (by omega), hM.m.u i hi2, nI1]
    cases inS V i with
    | false => rw [if_pos b2f, if_neg (by decide)]
    | true => rw [if_neg b2t, if_pos rfl]) (by
    intro n x
    show lp_Mo_about_90 (fun y1 V4 => some (y1, V4)) (n + 1) x (nI ((V 1 0).toNatClampNeg)) M = some (x, M)
    rw [lp_Mo_about_90, hM.m.r.u0, if_pos ((le_cnt h.u0 (by omega)).mpr (Nat.le_refl _))])
  exact key
theorem ab125 {V F M : Sto} (h : WF V) (hM : MX V F M) : lp_Mo_about_125 (fun y2 V5 => some (y2, V5)) FU 0 0 M = some (nI ((List.range ((V 2 0).toNatClampNeg)).countP (fun s => !decide (F 43 s = 0))), M) := by
  have hs1 := h.s1
  have key := cntK (L := fun n x i => lp_Mo_about_125 (fun y2 V5 => some (y2, V5)) n x (nI i) M) (P := fun s => !decide (F 43 s = 0)) (N := (V 2 0).toNatClampNeg) (k := fun x => some (x, M)) (by omega) (by
    intro n x i hi2
    show lp_Mo_about_125 (fun y2 V5 => some (y2, V5)) (n + 1) x (nI i) M = if (!decide (F 43 i = 0)) = true then lp_Mo_about_125 (fun y2 V5 => some (y2, V5)) n (x + 1) (nI (i + 1)) M else lp_Mo_about_125 (fun y2 V5 => some (y2, V5)) n x (nI (i + 1)) M
    rw [lp_Mo_about_125, hM.m.r.s0, if_neg (fun z => by have := (le_cnt h.s0 (by omega)).mp z; omega), ib_nI (show i < 96 by omega) (by decide), ck_mk, cI (by omega), hM.q.r i hi2, nI1]
    by_cases c : F 43 i = 0
    · rw [if_pos c, decide_eq_true c]; rfl
    · rw [if_neg c, decide_eq_false c]; rfl) (by
    intro n x
    show lp_Mo_about_125 (fun y2 V5 => some (y2, V5)) (n + 1) x (nI ((V 2 0).toNatClampNeg)) M = some (x, M)
    rw [lp_Mo_about_125, hM.m.r.s0, if_pos ((le_cnt h.s0 (by omega)).mpr (Nat.le_refl _))])
  exact key
theorem ab160 {V F M : Sto} (h : WF V) (hM : MX V F M) : lp_Mo_about_160 (fun y3 V6 => some (y3, V6)) FU 0 0 M = some (nI ((List.range ((V 2 0).toNatClampNeg)).countP (fun s => !decide (F 43 s = 0) && !decide (F 46 s = nI s))), M) := by
  have hs1 := h.s1
  have key := cntK (L := fun n x i => lp_Mo_about_160 (fun y3 V6 => some (y3, V6)) n x (nI i) M) (P := fun s => !decide (F 43 s = 0) && !decide (F 46 s = nI s)) (N := (V 2 0).toNatClampNeg) (k := fun x => some (x, M)) (by omega) (by
    intro n x i hi2
    show lp_Mo_about_160 (fun y3 V6 => some (y3, V6)) (n + 1) x (nI i) M = if (!decide (F 43 i = 0) && !decide (F 46 i = nI i)) = true then lp_Mo_about_160 (fun y3 V6 => some (y3, V6)) n (x + 1) (nI (i + 1)) M else lp_Mo_about_160 (fun y3 V6 => some (y3, V6)) n x (nI (i + 1)) M
    rw [lp_Mo_about_160, hM.m.r.s0, if_neg (fun z => by have := (le_cnt h.s0 (by omega)).mp z; omega), ib_nI (show i < 96 by omega) (by decide), ck_mk, ck_mk, cI (by omega), hM.q.r i hi2, hM.l i hi2, nI1]
    by_cases c : F 43 i = 0
    · rw [if_pos c, decide_eq_true c]; rfl
    · rw [if_neg c, decide_eq_false c]
      by_cases d : F 46 i = nI i
      · rw [if_pos d, decide_eq_true d]; rfl
      · rw [if_neg d, decide_eq_false d]; rfl) (by
    intro n x
    show lp_Mo_about_160 (fun y3 V6 => some (y3, V6)) (n + 1) x (nI ((V 2 0).toNatClampNeg)) M = some (x, M)
    rw [lp_Mo_about_160, hM.m.r.s0, if_pos ((le_cnt h.s0 (by omega)).mpr (Nat.le_refl _))])
  exact key
theorem ab226 {V F X M : Sto} (h : WF V) (hM : MX V F M) (h30 : ∀ r, r < (V 4 0).toNatClampNeg → M 30 r = X 53 r) : lp_Mo_about_226 (fun y4 V7 => some (y4, V7)) FU 0 0 M = some (nI (gcnt V X), M) := by
  have hr1 := h.r1
  have key := cntK (L := fun n x i => lp_Mo_about_226 (fun y4 V7 => some (y4, V7)) n x (nI i) M) (P := fun r => !decide (X 53 r = -1)) (N := (V 4 0).toNatClampNeg) (k := fun x => some (x, M)) (by omega) (by
    intro n x i hi2
    show lp_Mo_about_226 (fun y4 V7 => some (y4, V7)) (n + 1) x (nI i) M = if (!decide (X 53 i = -1)) = true then lp_Mo_about_226 (fun y4 V7 => some (y4, V7)) n (x + 1) (nI (i + 1)) M else lp_Mo_about_226 (fun y4 V7 => some (y4, V7)) n x (nI (i + 1)) M
    rw [lp_Mo_about_226, hM.m.r.r0, if_neg (fun z => by have := (le_cnt h.r0 (by omega)).mp z; omega), ib_nI (show i < 600 by omega) (by decide), ck_mk, cI (by omega), h30 i hi2, nI1]
    by_cases c : X 53 i = -1
    · rw [if_pos c, decide_eq_true c]; rfl
    · rw [if_neg c, decide_eq_false c]; rfl) (by
    intro n x
    show lp_Mo_about_226 (fun y4 V7 => some (y4, V7)) (n + 1) x (nI ((V 4 0).toNatClampNeg)) M = some (x, M)
    rw [lp_Mo_about_226, hM.m.r.r0, if_pos ((le_cnt h.r0 (by omega)).mpr (Nat.le_refl _))])
  exact key
theorem cnt_ns {V S F X : Sto} (h : WF V) (hC : CT V S F) (h43 : X 43 = F 43) : cnt X = (List.range ((V 2 0).toNatClampNeg)).countP (fun s => !decide (F 43 s = 0)) := by
  have hs1 := h.s1
  have e1 : cnt X = (List.range 96).countP (fun s => !decide (F 43 s = 0)) := by
    unfold cnt
    rw [h43]
    refine List.countP_congr (fun s hs => ?_)
    rcases hC.b s (List.mem_range.mp hs) with e | e
    · rw [e]; decide
    · rw [e]; decide
  have e2 : List.range 96 = List.range ((V 2 0).toNatClampNeg) ++ (List.range (96 - (V 2 0).toNatClampNeg)).map (fun x => (V 2 0).toNatClampNeg + x) := by
    rw [← List.range_add]
    congr 1
    omega
  rw [e1, e2, List.countP_append]
  have e3 : ((List.range (96 - (V 2 0).toNatClampNeg)).map (fun x => (V 2 0).toNatClampNeg + x)).countP (fun s => !decide (F 43 s = 0)) = 0 := by
    rw [List.countP_eq_zero]
    intro s hs
    obtain ⟨x, x1, x2⟩ := List.mem_map.mp hs
    have := List.mem_range.mp x1
    have hz : F 43 s = 0 := by
      by_cases c : F 43 s = 0
      · exact c
      · have := hC.g s (by omega) c
        omega
    rw [hz]
    decide
  rw [e3]
  rfl
theorem fold_cnt {V S F : Sto} (hC : CT V S F) : (List.range ((V 2 0).toNatClampNeg)).countP (fun s => !decide (F 46 s = nI s)) = (List.range ((V 2 0).toNatClampNeg)).countP (fun s => !decide (F 43 s = 0) && !decide (F 46 s = nI s)) := by
  refine List.countP_congr (fun s hs => ?_)
  have hsl := List.mem_range.mp hs
  by_cases c : F 46 s = nI s
  · rw [decide_eq_true c, Bool.not_true, Bool.and_false]
  · have hr : ¬ F 43 s = 0 := by
      have hn := hC.f.n s hsl
      have hle := hC.f.le s hsl
      have hld := hC.f.ld s hsl
      rcases hC.f.b ((F 46 s).toNatClampNeg) s (by omega) hsl hld with e | ⟨-, -, g3, -⟩
      · exfalso; apply c; rw [hn, e]
      · rw [hC.s 43 (by decide)]; exact (mf_text g3).2.2.1
    rw [decide_eq_false c, decide_eq_false hr]
    rfl
theorem ib8 {x : Int32} (h : ib x 8 = true) : x = 0 ∨ x = 1 ∨ x = 2 ∨ x = 3 ∨ x = 4 ∨ x = 5 ∨ x = 6 ∨ x = 7 := by
  have h1 := ib_eq h
  have h2 := ib_lt h
  have h3 : x.toNatClampNeg = 0 ∨ x.toNatClampNeg = 1 ∨ x.toNatClampNeg = 2 ∨ x.toNatClampNeg = 3 ∨ x.toNatClampNeg = 4 ∨ x.toNatClampNeg = 5 ∨ x.toNatClampNeg = 6 ∨ x.toNatClampNeg = 7 := by omega
  rcases h3 with e | e | e | e | e | e | e | e <;> rw [e] at h1 <;> simp [h1, nI]
theorem op_about {V M : Sto} (hI : Iv V M) (p : Int32) : StI Iv cs_Lw_about (f_Ly_about V p) (f_Mo_about M p) V 0 := by
  have hw := hI.w
  rcases hI.two with ⟨l1, l2⟩ | ⟨l1, l2, V1, S, F, b, c, hL⟩
  · refine st_thr (V := V) (M := M) (e := 1) (k := 1) (b := 0) (by unfold f_Ly_about; rw [ask0 l1, clT_th]) (by decide) (by decide) ?_ (hI.thr 1)
    unfold f_Mo_about
    rw [jn_mk, if_pos l2]
    dsimp only
    rw [jn_mk, if_pos l2]
    dsimp only
    rw [refuse_10, cl_mk, if_neg n10]
  · have hh : f_Mo_within M p 0 7 = some (if ib p 8 = true then 1 else 0, M) := moHas_eq (n := 8) (x := 8) M rfl (by decide) p
    have l2' : ¬ M 0 29 = 0 := by rw [l2]; decide
    by_cases g : ib p 8 = true
    · have hq := (hL.thr 0).q
      have hw1 := hL.w
      obtain ⟨M', hM'⟩ : ∃ M', sw M 0 0 0 = M' := ⟨_, rfl⟩
      rw [hM'] at hq
      have e1 : V 1 = V1 1 := hL.e 1 (by decide) rfl
      have e2 : V 2 = V1 2 := hL.e 2 (by decide) rfl
      have hcl := hq.i.hc
      -- the reference, up to the question
      have eM : ∀ r, (if p = 0 then lp_Mo_about_90 (fun y1 V4 => some (y1, V4)) FU 0 0 M' else if p = 1 then lp_Mo_about_125 (fun y2 V5 => some (y2, V5)) FU 0 0 M' else if p = 2 then lp_Mo_about_160 (fun y3 V6 => some (y3, V6)) FU 0 0 M' else if p = 3 then some (M' 0 47, M') else if p = 4 then if (M' 0 47) ≤ 0 then some ((-1), M') else some (M' 0 49, M') else if p = 5 then lp_Mo_about_226 (fun y4 V7 => some (y4, V7)) FU 0 0 M' else if p = 6 then some (M' 0 34, M') else some (M' 0 35, M')) = some (r, M') → f_Mo_about M p = some (r, sw M 0 0 0) := by
        intro r hr
        unfold f_Mo_about
        rw [jn_mk, if_neg l2']
        dsimp only
        rw [jn_mk, if_neg l2', hh, if_pos g, cl_mk, if_neg n10]
        dsimp only
        rw [refuse_00, cl_mk, if_pos rfl, hM']
        exact hr
      rw [ab90 hw1 hq.y, ab125 hw1 hq.y, ab160 hw1 hq.y, ab226 (X := V) hw1 hq.y (fun r hr => (hq.i.is r hr).1)] at eM
      have eC : ∀ r, (if p = 0 then (some (Sum.inl (nI ((List.range ((V 1 0).toNatClampNeg)).countP (inS V1))), V) : RTT) else if p = 1 then some (Sum.inl (V 7 6), V) else if p = 2 then some (Sum.inl (nI ((List.range ((V 2 0).toNatClampNeg)).countP (fun s => !decide (F 46 s = nI s)))), V) else if p = 3 then some (Sum.inl (V 10 5), V) else if p = 4 then (if (V 10 5) ≤ 0 then some (Sum.inl (-1), V) else some (Sum.inl (V 9 7), V)) else if p = 5 then some (Sum.inl (V 10 6), V) else if p = 6 then some (Sum.inl (V 9 5), V) else if p = 7 then some (Sum.inl (V 9 6), V) else some (Sum.inr 0, V)) = some (Sum.inl r, V) → f_Ly_about V p = some (Sum.inl r, V) := by
        intro r hr
        unfold f_Ly_about
        rw [ask1 l1, clT_mk, countIn_eq hw (A := inS V1) (by rw [e1]; exact hL.i), cl_mk, countFolded_eq hw (F := F) (hL.q.x 46 (by decide)), cl_mk]
        exact hr
      rw [e1, e2, fold_cnt hL.t, hL.f, cnt_ns hw1 hL.t (hL.q.x 43 (by decide)), hq.i.xc, hq.l.i, hq.i.go, hq.l.e] at eC
      rw [hq.i.yc, hq.m.e, hq.t] at eM
      have fin : ∀ r, (if p = 0 then some (nI ((List.range ((V1 1 0).toNatClampNeg)).countP (inS V1)), M') else if p = 1 then some (nI ((List.range ((V1 2 0).toNatClampNeg)).countP (fun s => !decide (F 43 s = 0))), M') else if p = 2 then some (nI ((List.range ((V1 2 0).toNatClampNeg)).countP (fun s => !decide (F 43 s = 0) && !decide (F 46 s = nI s))), M') else if p = 3 then some (nI c, M') else if p = 4 then if nI c ≤ 0 then some ((-1), M') else some (M' 0 49, M') else if p = 5 then some (nI (gcnt V1 V), M') else if p = 6 then some (nI (cm F (t4 V1 F b c) 200), M') else some (V 9 6, M')) = some (r, M') → (if p = 0 then (some (Sum.inl (nI ((List.range ((V1 1 0).toNatClampNeg)).countP (inS V1))), V) : RTT) else if p = 1 then some (Sum.inl (nI ((List.range ((V1 2 0).toNatClampNeg)).countP (fun s => !decide (F 43 s = 0)))), V) else if p = 2 then some (Sum.inl (nI ((List.range ((V1 2 0).toNatClampNeg)).countP (fun s => !decide (F 43 s = 0) && !decide (F 46 s = nI s)))), V) else if p = 3 then some (Sum.inl (nI c), V) else if p = 4 then (if nI c ≤ 0 then some (Sum.inl (-1), V) else some (Sum.inl (nI (upN (t1 V1 F b) 4)), V)) else if p = 5 then some (Sum.inl (nI (gcnt V1 V)), V) else if p = 6 then some (Sum.inl (nI (cm F (t4 V1 F b c) 200)), V) else if p = 7 then some (Sum.inl (V 9 6), V) else some (Sum.inr 0, V)) = some (Sum.inl r, V) → StI Iv cs_Lw_about (f_Ly_about V p) (f_Mo_about M p) V 0 := fun r a d => st_ok hI (eC r d) (eM r a)
      rcases ib8 g with e | e | e | e | e | e | e | e
      · subst e; exact fin _ rfl rfl
      · subst e; exact fin _ rfl rfl
      · subst e; exact fin _ rfl rfl
      · subst e; exact fin _ rfl rfl
      · subst e
        by_cases cc : c = 0
        · refine fin (-1) ?_ ?_
          · show (if nI c ≤ 0 then some ((-1 : Int32), M') else some (M' 0 49, M')) = _
            rw [cc, if_pos (by decide)]
          · show (if nI c ≤ 0 then (some (Sum.inl (-1), V) : RTT) else some (Sum.inl (nI (upN (t1 V1 F b) 4)), V)) = _
            rw [cc, if_pos (by decide)]
        · refine fin (nI (upN (t1 V1 F b) 4)) ?_ ?_
          · show (if nI c ≤ 0 then some ((-1 : Int32), M') else some (M' 0 49, M')) = _
            rw [if_neg (nI_nle (by omega) (by omega)), hq.m.i (by omega)]
          · show (if nI c ≤ 0 then (some (Sum.inl (-1), V) : RTT) else some (Sum.inl (nI (upN (t1 V1 F b) 4)), V)) = _
            rw [if_neg (nI_nle (by omega) (by omega))]
      · subst e; exact fin _ rfl rfl
      · subst e; exact fin _ rfl rfl
      · subst e; exact fin _ rfl rfl
    · refine st_thr (V := V) (M := M) (e := 0) (k := 2) (b := 0) ?_ (by decide) (by decide) ?_ (hI.thr 2)
      · have k0 : ¬ p = 0 := fun e => g (by rw [e]; decide)
        have k1 : ¬ p = 1 := fun e => g (by rw [e]; decide)
        have k2 : ¬ p = 2 := fun e => g (by rw [e]; decide)
        have k3 : ¬ p = 3 := fun e => g (by rw [e]; decide)
        have k4 : ¬ p = 4 := fun e => g (by rw [e]; decide)
        have k5 : ¬ p = 5 := fun e => g (by rw [e]; decide)
        have k6 : ¬ p = 6 := fun e => g (by rw [e]; decide)
        have k7 : ¬ p = 7 := fun e => g (by rw [e]; decide)
        unfold f_Ly_about
        rw [ask1 l1, clT_mk, if_neg k0, if_neg k1, if_neg k2, if_neg k3, if_neg k4, if_neg k5, if_neg k6, if_neg k7]
      · unfold f_Mo_about
        rw [jn_mk, if_neg l2']
        dsimp only
        rw [jn_mk, if_neg l2', hh, if_neg g, cl_mk, if_pos rfl]
        dsimp only
        rw [refuse_01, cl_mk, if_neg n10]
