/-! What is asked of a link: faults, units, sections, names. -/
theorem st_ok {cs : List (Nat × Int32)} {x : RTT} {y : RT} {V M : Sto} {r : Int32} (hI : Iv V M) (hx : x = some (.inl r, V)) (hy : y = some (r, sw M 0 0 0)) : StI Iv cs x y V 0 :=
  ⟨0, r, V, r, sw M 0 0 0, Or.inl ⟨hx, rfl⟩, hy, by rw [sw_at, if_pos rfl], fun _ => rfl, hI.thr 0, Nat.le_of_eq (Nat.zero_add _)⟩
theorem n10 : ¬ (1 : Int32) = 0 := by decide
theorem n01 : ¬ (0 : Int32) = 1 := by decide
theorem n02 : ¬ (0 : Int32) = 2 := by decide
theorem n03 : ¬ (0 : Int32) = 3 := by decide
theorem n12 : ¬ (1 : Int32) = 2 := by decide
theorem n13 : ¬ (1 : Int32) = 3 := by decide
theorem n21 : ¬ (2 : Int32) = 1 := by decide
theorem n23 : ¬ (2 : Int32) = 3 := by decide
theorem n31 : ¬ (3 : Int32) = 1 := by decide
theorem n32 : ¬ (3 : Int32) = 2 := by decide
theorem nm1 : ¬ (-1 : Int32) = 1 := by decide
theorem nm2 : ¬ (-1 : Int32) = 2 := by decide
theorem nm3 : ¬ (-1 : Int32) = 3 := by decide
theorem op_fault {V M : Sto} (hI : Iv V M) (p : Int32) : StI Iv cs_Lw_fault (f_Ly_fault V p) (f_Mo_fault M p) V 0 := by
  have hf := hI.f
  have good : ∀ r, ((0 : Int32) ≤ p ∧ p ≤ 2) → (if p = 0 then some (M 0 30, sw M 0 0 0) else if p = 1 then some (M 0 31, sw M 0 0 0) else some (M 0 32, sw M 0 0 0)) = some (r, sw M 0 0 0) → f_Mo_fault M p = some (r, sw M 0 0 0) := by
    intro r hg hr
    unfold f_Mo_fault
    rw [within_eq, if_pos hg, cl_mk]
    simp only [jn_mk, i10, if_true, if_false, refuse_00, cl_mk]
    rw [sw_at, sw_at, sw_at]
    exact hr
  by_cases c0 : p = 0
  · subst c0
    refine st_ok hI (r := V 0 15) (by unfold f_Ly_fault; rw [if_pos rfl]) (good _ (by decide) ?_)
    rw [if_pos rfl, hf.fk]
  · by_cases c1 : p = 1
    · subst c1
      refine st_ok hI (r := V 0 16) (by unfold f_Ly_fault; rw [if_neg c0, if_pos rfl]) (good _ (by decide) ?_)
      rw [if_neg c0, if_pos rfl, hf.fn]
    · by_cases c2 : p = 2
      · subst c2
        refine st_ok hI (r := V 0 17) (by unfold f_Ly_fault; rw [if_neg c0, if_neg c1, if_pos rfl]) (good _ (by decide) ?_)
        rw [if_neg c0, if_neg c1, hf.fr]
      · have hg : ¬ ((0 : Int32) ≤ p ∧ p ≤ 2) := by
          rintro ⟨g1, g2⟩
          have : ib p 3 = true := by
            rw [ib_iff]
            rw [Int32.le_iff_toInt_le] at g1 g2
            have e0 : (0 : Int32).toInt = 0 := by decide
            have e2 : (2 : Int32).toInt = 2 := by decide
            omega
          rcases ib3c this with e | e | e
          · exact c0 e
          · exact c1 e
          · exact c2 e
        refine st_thr (V := V) (M := M) (e := 0) (k := 1) (b := 0) (by unfold f_Ly_fault; rw [if_neg c0, if_neg c1, if_neg c2]) (by decide) (by decide) ?_ (hI.thr 1)
        unfold f_Mo_fault
        rw [within_eq, if_neg hg, cl_mk]
        simp only [jn_mk, i10, if_true, if_false, refuse_10, cl_mk]
/-- linked, or not -/
theorem Iv.two {V M : Sto} (hI : Iv V M) : (V 0 14 = 0 ∧ M 0 29 = 0) ∨ (V 0 14 = 1 ∧ M 0 29 = 1 ∧ Lkd V M) := by
  rcases bb_of hI.f.lb with e | e
  · exact Or.inl ⟨e, by rw [hI.f.li]; exact e⟩
  · exact Or.inr ⟨e, by rw [hI.f.li]; exact e, hI.l e⟩
theorem ask0 {V : Sto} (h : V 0 14 = 0) : f_Ly_askLinked V = some (.inr 1, V) := by unfold f_Ly_askLinked; rw [if_pos h]
theorem ask1 {V : Sto} (h : V 0 14 = 1) : f_Ly_askLinked V = some (.inl 0, V) := by unfold f_Ly_askLinked; rw [if_neg (by rw [h]; decide)]
theorem op_isIn {V M : Sto} (hI : Iv V M) (p : Int32) : StI Iv cs_Lw_isIn (f_Ly_isIn V p) (f_Mo_isIn M p) V 0 := by
  have hw := hI.w
  have hu1 := hw.u1
  rcases hI.two with ⟨l1, l2⟩ | ⟨l1, l2, V1, S, F, b, c, hL⟩
  · refine st_thr (V := V) (M := M) (e := 1) (k := 1) (b := 0) (by unfold f_Ly_isIn; rw [ask0 l1, clT_th]) (by decide) (by decide) ?_ (hI.thr 1)
    unfold f_Mo_isIn
    simp only [jn_mk, l2, if_true, refuse_10, cl_mk, i10, if_false]
  · have hh : f_Mo_within M p 0 (M 0 1 - 1) = some (if ib p ((V 1 0).toNatClampNeg) = true then 1 else 0, M) := by rw [hI.d.u0]; exact moHas_eq M hw.u0 (by omega) p
    by_cases g : ib p ((V 1 0).toNatClampNeg) = true
    · have hp := ib_eq g
      have hpl := ib_lt g
      have e1 : V 1 = V1 1 := hL.e 1 (by decide) rfl
      have hi := hL.i (p.toNatClampNeg) (by rw [← e1]; exact hpl)
      have hm := (hL.thr 0).q.y.m.u (p.toNatClampNeg) (by rw [← e1]; exact hpl)
      refine st_ok hI (r := V 13 (p.toNatClampNeg)) ?_ ?_
      · unfold f_Ly_isIn
        rw [ask1 l1, clT_mk, unHas_eq hw, if_pos g, cl_mk, if_neg n10, ib_mono g hu1, ck_mk, hi, bb_b2, ck_mk]
      · unfold f_Mo_isIn
        simp only [jn_mk, l2, i10, if_false, hh, if_pos g, cl_mk, refuse_00, if_true]
        rw [ib_mono g hu1, ck_mk, hm, bb_b2, ck_mk, hi]
    · refine st_thr (V := V) (M := M) (e := 0) (k := 2) (b := 0) ?_ (by decide) (by decide) ?_ (hI.thr 2)
      · unfold f_Ly_isIn
        rw [ask1 l1, clT_mk, unHas_eq hw, if_neg g, cl_mk, if_pos rfl]
      · unfold f_Mo_isIn
        simp only [jn_mk, l2, i10, if_false, hh, if_neg g, cl_mk, refuse_01, if_true]
theorem op_address {V M : Sto} (hI : Iv V M) (p : Int32) : StI Iv cs_Lw_address (f_Ly_address V p) (f_Mo_address M p) V 0 := by
  have hw := hI.w
  have hs1 := hw.s1
  rcases hI.two with ⟨l1, l2⟩ | ⟨l1, l2, V1, S, F, b, c, hL⟩
  · refine st_thr (V := V) (M := M) (e := 1) (k := 1) (b := 0) (by unfold f_Ly_address; rw [ask0 l1, clT_th]) (by decide) (by decide) ?_ (hI.thr 1)
    unfold f_Mo_address
    simp only [jn_mk, l2, if_true, refuse_10, cl_mk, i10, if_false]
  · have hh : f_Mo_within M p 0 (M 0 3 - 1) = some (if ib p ((V 2 0).toNatClampNeg) = true then 1 else 0, M) := by rw [hI.d.s0]; exact moHas_eq M hw.s0 (by omega) p
    by_cases g : ib p ((V 2 0).toNatClampNeg) = true
    · have hpl := ib_lt g
      have e2 : V 2 = V1 2 := hL.e 2 (by decide) rfl
      have hpl1 : p.toNatClampNeg < (V1 2 0).toNatClampNeg := by rw [← e2]; exact hpl
      have hq := (hL.thr 0).q
      refine st_ok hI (r := V 48 (p.toNatClampNeg)) ?_ ?_
      · unfold f_Ly_address f_Ly_askSection
        rw [ask1 l1, clT_mk, seHas_eq hw, if_pos g, cl_mk, if_neg n10, clT_mk, ib_mono g hs1, ck_mk]
      · unfold f_Mo_address
        simp only [jn_mk, l2, i10, if_false, hh, if_pos g, cl_mk, refuse_00, if_true]
        rw [ib_mono g hs1, ck_mk, ck_mk, hq.y.q.r _ hpl1]
        by_cases c1 : F 43 (p.toNatClampNeg) = 0
        · rw [if_pos c1, hq.u _ hpl1 c1]
        · rw [if_neg c1, hq.ad.s _ hpl1 c1]
    · refine st_thr (V := V) (M := M) (e := 0) (k := 2) (b := 0) ?_ (by decide) (by decide) ?_ (hI.thr 2)
      · unfold f_Ly_address f_Ly_askSection
        rw [ask1 l1, clT_mk, seHas_eq hw, if_neg g, cl_mk, if_pos rfl, clT_th]
      · unfold f_Mo_address
        simp only [jn_mk, l2, i10, if_false, hh, if_neg g, cl_mk, refuse_01, if_true]
theorem op_like {V M : Sto} (hI : Iv V M) (p : Int32) : StI Iv cs_Lw_like (f_Ly_like V p) (f_Mo_like M p) V 0 := by
  have hw := hI.w
  have hs1 := hw.s1
  rcases hI.two with ⟨l1, l2⟩ | ⟨l1, l2, V1, S, F, b, c, hL⟩
  · refine st_thr (V := V) (M := M) (e := 1) (k := 1) (b := 0) (by unfold f_Ly_like; rw [ask0 l1, clT_th]) (by decide) (by decide) ?_ (hI.thr 1)
    unfold f_Mo_like
    simp only [jn_mk, l2, if_true, refuse_10, cl_mk, i10, if_false]
  · have hh : f_Mo_within M p 0 (M 0 3 - 1) = some (if ib p ((V 2 0).toNatClampNeg) = true then 1 else 0, M) := by rw [hI.d.s0]; exact moHas_eq M hw.s0 (by omega) p
    by_cases g : ib p ((V 2 0).toNatClampNeg) = true
    · have hpl := ib_lt g
      have e2 : V 2 = V1 2 := hL.e 2 (by decide) rfl
      have hpl1 : p.toNatClampNeg < (V1 2 0).toNatClampNeg := by rw [← e2]; exact hpl
      have hq := (hL.thr 0).q
      have e43 : V 43 = F 43 := hL.q.x 43 (by decide)
      have e46 : V 46 = F 46 := hL.q.x 46 (by decide)
      refine st_ok hI (r := if F 43 (p.toNatClampNeg) = 0 then -1 else F 46 (p.toNatClampNeg)) ?_ ?_
      · unfold f_Ly_like f_Ly_askSection
        rw [ask1 l1, clT_mk, seHas_eq hw, if_pos g, cl_mk, if_neg n10, clT_mk, ib_mono g hs1, ck_mk, ck_mk, e43, e46]
        by_cases c1 : F 43 (p.toNatClampNeg) = 0
        · rw [if_pos c1, if_pos c1]
        · rw [if_neg c1, if_neg c1]
      · unfold f_Mo_like
        simp only [jn_mk, l2, i10, if_false, hh, if_pos g, cl_mk, refuse_00, if_true]
        rw [ib_mono g hs1, ck_mk, ck_mk, hq.y.q.r _ hpl1, hq.y.l _ hpl1]
        by_cases c1 : F 43 (p.toNatClampNeg) = 0
        · rw [if_pos c1, if_pos c1]
        · rw [if_neg c1, if_neg c1]
    · refine st_thr (V := V) (M := M) (e := 0) (k := 2) (b := 0) ?_ (by decide) (by decide) ?_ (hI.thr 2)
      · unfold f_Ly_like f_Ly_askSection
        rw [ask1 l1, clT_mk, seHas_eq hw, if_neg g, cl_mk, if_pos rfl, clT_th]
      · unfold f_Mo_like
        simp only [jn_mk, l2, i10, if_false, hh, if_neg g, cl_mk, refuse_01, if_true]
theorem op_common {V M : Sto} (hI : Iv V M) (p : Int32) : StI Iv cs_Lw_common (f_Ly_common V p) (f_Mo_common M p) V 0 := by
  rcases hI.two with ⟨l1, l2⟩ | ⟨l1, l2, V1, S, F, b, c, hL⟩
  · refine st_thr (V := V) (M := M) (e := 1) (k := 1) (b := 0) (by unfold f_Ly_common; rw [ask0 l1, clT_th]) (by decide) (by decide) ?_ (hI.thr 1)
    unfold f_Mo_common
    simp only [jn_mk, l2, if_true, refuse_10, cl_mk, i10, if_false]
  · have hh : f_Mo_within M p 0 199 = some (if ib p 200 = true then 1 else 0, M) := moHas_eq (n := 200) (x := 200) M rfl (by decide) p
    by_cases g : ib p 200 = true
    · have hpl := ib_lt g
      have hq := (hL.thr 0).q
      refine st_ok hI (r := V 49 (p.toNatClampNeg)) ?_ ?_
      · unfold f_Ly_common
        rw [ask1 l1, clT_mk, isName_eq, if_pos g, cl_mk, if_neg n10, g, ck_mk]
      · unfold f_Mo_common
        simp only [jn_mk, l2, i10, if_false, hh, if_pos g, cl_mk, refuse_00, if_true]
        rw [g, ck_mk, ck_mk, hq.y.q.n _ hpl]
        by_cases c1 : F 44 (p.toNatClampNeg) = 0
        · rw [if_pos c1, hq.v _ hpl c1]
        · rw [if_neg c1, hq.ad.n _ hpl c1]
    · refine st_thr (V := V) (M := M) (e := 0) (k := 2) (b := 0) ?_ (by decide) (by decide) ?_ (hI.thr 2)
      · unfold f_Ly_common
        rw [ask1 l1, clT_mk, isName_eq, if_neg g, cl_mk, if_pos rfl]
      · unfold f_Mo_common
        simp only [jn_mk, l2, i10, if_false, hh, if_neg g, cl_mk, refuse_01, if_true]
theorem three {q : Int32} (h : ib q 3 = true) : q = 0 ∨ (¬ q = 0 ∧ q = 1) ∨ (¬ q = 0 ∧ ¬ q = 1 ∧ q = 2) := by
  rcases ib3c h with e | e | e
  · exact Or.inl e
  · exact Or.inr (Or.inl ⟨by rw [e]; decide, e⟩)
  · exact Or.inr (Or.inr ⟨by rw [e]; decide, by rw [e]; decide, e⟩)
theorem op_means {V M : Sto} (hI : Iv V M) (p q : Int32) : StI Iv cs_Lw_means (f_Ly_means V p q) (f_Mo_means M p q) V 0 := by
  have hw := hI.w
  have hy1 := hw.y1
  rcases hI.two with ⟨l1, l2⟩ | ⟨l1, l2, V1, S, F, b, c, hL⟩
  · refine st_thr (V := V) (M := M) (e := 1) (k := 1) (b := 0) (by unfold f_Ly_means; rw [ask0 l1, clT_th]) (by decide) (by decide) ?_ (hI.thr 1)
    unfold f_Mo_means
    simp only [jn_mk, l2, if_true, refuse_10, cl_mk, i10, if_false]
  · have hh : f_Mo_within M p 0 (M 0 13 - 1) = some (if ib p ((V 3 0).toNatClampNeg) = true then 1 else 0, M) := by rw [hI.d.y0]; exact moHas_eq M hw.y0 (by omega) p
    have hh2 : f_Mo_within M q 0 2 = some (if ib q 3 = true then 1 else 0, M) := moHas_eq (n := 3) (x := 3) M rfl (by decide) q
    by_cases g : ib p ((V 3 0).toNatClampNeg) = true
    · by_cases g2 : ib q 3 = true
      · have hpe := ib_eq g
        have hpl := ib_lt g
        obtain ⟨y, hy⟩ : ∃ y, p.toNatClampNeg = y := ⟨_, rfl⟩
        rw [hy] at hpl hpe
        subst hpe
        have e3 : V 3 = V1 3 := hL.e 3 (by decide) rfl
        have hyl : y < (V1 3 0).toNatClampNeg := by rw [← e3]; exact hpl
        have hq := (hL.thr 0).q
        have hw1 := hL.w
        have hs1 := hw1.s1
        have hu1 := hw1.u1
        have hC := hL.t
        have e40 : V 40 = F 40 := hL.q.x 40 (by decide)
        have e41 : V 41 = F 41 := hL.q.x 41 (by decide)
        have e43 : V 43 = F 43 := hL.q.x 43 (by decide)
        have e44 : V 44 = F 44 := hL.q.x 44 (by decide)
        have hul : dU V1 y < (V1 1 0).toNatClampNeg := ib_lt (hw1.yu y hyl)
        have hyu := hq.y.m.u _ hul
        have ci : (nI y).toNatClampNeg = y := cI (by omega)
        have i4 : ib (nI y) 400 = true := ib_nI (by omega) (by decide)
        -- the class, up to the question
        have eC : ∀ r, (if q = 0 then (some (Sum.inl (F 40 y), V) : RTT) else if q = 1 then (if F 40 y = 1 then some (Sum.inl (F 41 y), V) else some (Sum.inl (-1), V)) else cl (f_La_isLaid V (nI y)) fun r3 V3 => if r3 = 0 then some (Sum.inl 0, V3) else cl (f_La_addressOf V3 (nI y)) fun r4 V4 => some (Sum.inl r4, V4)) = some (Sum.inl r, V) → f_Ly_means V (nI y) q = some (Sum.inl r, V) := by
          intro r hr
          unfold f_Ly_means
          rw [ask1 l1, clT_mk, syHas_eq hw, if_pos g, cl_mk, if_neg n10, i4, ck_mk, ck_mk, ck_mk, ci, e40, e41, ← hr]
          rcases three g2 with e | ⟨k0, e⟩ | ⟨k0, k1, e⟩
          · rw [if_pos e, if_pos e]
          · rw [if_neg k0, if_pos e, if_neg k0, if_pos e]
          · rw [if_neg k0, if_neg k1, if_pos e, if_neg k0, if_neg k1]
        obtain ⟨M', hM'⟩ : ∃ M', sw M 0 0 0 = M' := ⟨_, rfl⟩
        rw [hM'] at hq hyu
        have iy24 : ib (M' 9 y) 24 = true := by rw [hq.y.m.r.yu]; exact ib_mono (hw1.yu y hyl) hu1
        have e20 : M' 20 (M' 9 y).toNatClampNeg = b2 (inS V1 (dU V1 y)) := by rw [hq.y.m.r.yu]; exact hyu
        cases hin : inS V1 (dU V1 y) with
        | false =>
          have hm : F 40 y = -1 := by
            rw [hC.n.m y hyl]
            unfold mng
            rw [if_pos hin]
          have val : ∀ r, (if q = 0 then (-1 : Int32) else if q = 1 then -1 else 0) = r → StI Iv cs_Lw_means (f_Ly_means V (nI y) q) (f_Mo_means M (nI y) q) V 0 := by
            intro r hr
            refine st_ok hI (r := r) (eC r ?_) ?_
            · rw [hm, ← hr]
              rcases three g2 with e | ⟨k0, e⟩ | ⟨k0, k1, e⟩
              · rw [if_pos e, if_pos e]
              · rw [if_neg k0, if_pos e, if_neg nm1, if_neg k0, if_pos e]
              · rw [if_neg k0, if_neg k1, if_neg k0, if_neg k1]
                unfold f_La_isLaid
                rw [i4, ck_mk, ci, e40, hm, if_neg nm1, if_neg nm3, ck_mk, if_neg nm2, cl_mk, if_pos rfl]
            · unfold f_Mo_means
              simp only [jn_mk, l2, i10, if_false, hh, hh2, if_pos g, if_pos g2, cl_mk, refuse_00, if_true]
              rw [hM', i4, ck_mk, ci, iy24, ck_mk, e20, hin, if_pos b2f, ← hr]
              rcases three g2 with e | ⟨k0, e⟩ | ⟨k0, k1, e⟩
              · rw [if_pos e, if_pos e]
              · rw [if_neg k0, if_pos e, if_neg nm1, if_neg k0, if_pos e]
              · rw [if_neg k0, if_neg k1, if_neg nm2, if_neg nm1, if_neg nm3, if_neg k0, if_neg k1]
          exact val _ rfl
        | true =>
          obtain ⟨mc, mf'⟩ := mean_eq hw1 hC.n hq.y.m.n hq.y.m.r hyl hin
          have hn := hw1.yn y hyl
          have iyn : ib (M' 13 y) 200 = true := by rw [hq.y.m.r.yn]; exact hn
          -- the reference, up to the question
          have eM : ∀ r, (if q = 0 then some (F 40 y, M') else if q = 1 then (if F 40 y = 1 then some (F 41 y, M') else some ((-1), M')) else if F 40 y = 2 then some (adO V y, M') else if F 40 y = 1 then (if F 43 ((F 41 y).toNatClampNeg) = 0 then some (0, M') else some (adO V y, M')) else if F 40 y = 3 then (if F 44 ((V1 22 y).toNatClampNeg) = 0 then some (0, M') else some (adO V y, M')) else some (0, M')) = some (r, M') → f_Mo_means M (nI y) q = some (r, sw M 0 0 0) := by
            intro r hr
            unfold f_Mo_means
            simp only [jn_mk, l2, i10, if_false, hh, hh2, if_pos g, if_pos g2, cl_mk, refuse_00, if_true]
            rw [hM', i4, ck_mk, ci, iy24, ck_mk, e20, hin, if_neg b2t, mc.so, cl_mk, ← hr]
            rcases three g2 with e | ⟨k0, e⟩ | ⟨k0, k1, e⟩
            · rw [if_pos e, if_pos e]
            · rw [if_neg k0, if_pos e, if_neg k0, if_pos e]
              by_cases c1 : F 40 y = 1
              · rw [if_pos c1, if_pos c1, mc.se, cl_mk, if_pos c1]
              · rw [if_neg c1, if_neg c1]
            · rw [if_neg k0, if_neg k1, if_neg k0, if_neg k1]
              by_cases c2 : F 40 y = 2
              · rw [if_pos c2, if_pos c2, meaning_eq hw1 hC hq.x hq.y hq.ad hyl hin (fun z => by rw [c2] at z; exact absurd z (by decide)) (fun z => by rw [c2] at z; exact absurd z (by decide)), cl_mk]
              · rw [if_neg c2, if_neg c2]
                by_cases c1 : F 40 y = 1
                · have w41 : ib (F 41 y) ((V1 2 0).toNatClampNeg) = true := by
                    rcases mf' with ⟨f, -⟩ | ⟨-, f, -⟩ | ⟨f, -⟩ | ⟨f, -⟩
                    · rw [c1] at f; exact absurd f (by decide)
                    · exact f
                    · rw [c1] at f; exact absurd f (by decide)
                    · rw [c1] at f; exact absurd f (by decide)
                  rw [if_pos c1, if_pos c1, mc.se, cl_mk, if_pos c1, ib_mono w41 hs1, ck_mk, hq.y.q.r _ (ib_lt w41)]
                  by_cases c3 : F 43 ((F 41 y).toNatClampNeg) = 0
                  · rw [if_pos c3, if_pos c3, if_neg (show ¬ F 40 y = 3 by rw [c1]; decide)]
                  · rw [if_neg c3, if_neg c3, meaning_eq hw1 hC hq.x hq.y hq.ad hyl hin (fun _ => c3) (fun z => by rw [c1] at z; exact absurd z (by decide)), cl_mk]
                · rw [if_neg c1, if_neg c1]
                  by_cases c3 : F 40 y = 3
                  · have w41 : F 41 y = V1 22 y := by
                      rcases mf' with ⟨f, -⟩ | ⟨f, -⟩ | ⟨f, -⟩ | ⟨-, f, -⟩
                      · rw [c3] at f; exact absurd f (by decide)
                      · rw [c3] at f; exact absurd f (by decide)
                      · rw [c3] at f; exact absurd f (by decide)
                      · exact f
                    rw [if_pos c3, if_pos c3, iyn, ck_mk, ck_mk, hq.y.m.r.yn, hq.y.q.n _ (ib_lt hn)]
                    by_cases c4 : F 44 ((V1 22 y).toNatClampNeg) = 0
                    · rw [if_pos c4, if_pos c4]
                    · rw [if_neg c4, if_neg c4, meaning_eq hw1 hC hq.x hq.y hq.ad hyl hin (fun z => by rw [c3] at z; exact absurd z (by decide)) (fun _ => by rw [w41]; exact c4), cl_mk]
                  · rw [if_neg c3, if_neg c3]
          -- the class's address, if it is laid
          have adr : (F 40 y = 1 → ib (F 41 y) 96 = true) → (F 40 y = 3 → ib (F 41 y) 200 = true) → f_La_addressOf V (nI y) = some (adO V y, V) := fun a d => addressOf_eq (by omega) (by rw [e40, e41]; exact a) (by rw [e40, e41]; exact d)
          have go : ∀ r, (if q = 0 then F 40 y else if q = 1 then (if F 40 y = 1 then F 41 y else -1) else if F 40 y = 2 then adO V y else if F 40 y = 1 then (if F 43 ((F 41 y).toNatClampNeg) = 0 then 0 else adO V y) else if F 40 y = 3 then (if F 44 ((V1 22 y).toNatClampNeg) = 0 then 0 else adO V y) else 0) = r → StI Iv cs_Lw_means (f_Ly_means V (nI y) q) (f_Mo_means M (nI y) q) V 0 := by
            intro r hr
            refine st_ok hI (r := r) (eC r ?_) (eM r ?_)
            · rcases three g2 with e | ⟨k0, e⟩ | ⟨k0, k1, e⟩
              · rw [if_pos e]; rw [if_pos e] at hr; rw [hr]
              · rw [if_neg k0, if_pos e]
                rw [if_neg k0, if_pos e] at hr
                by_cases c1 : F 40 y = 1
                · rw [if_pos c1]; rw [if_pos c1] at hr; rw [hr]
                · rw [if_neg c1]; rw [if_neg c1] at hr; rw [hr]
              · rw [if_neg k0, if_neg k1]
                rw [if_neg k0, if_neg k1] at hr
                unfold f_La_isLaid
                rw [i4, ck_mk, ck_mk, ck_mk, ck_mk, ci, e40, e41, e43, e44]
                rcases mf' with ⟨f, f2, f3⟩ | ⟨f, f2, f3⟩ | ⟨f, f2⟩ | ⟨f, f2, f3, f4⟩
                · rw [f] at hr ⊢
                  rw [if_neg n02, if_neg n01, if_neg n03] at hr
                  rw [if_neg n01, if_neg n03, if_neg n02, cl_mk, if_pos rfl, hr]
                · have a1 := adr (fun _ => ib_mono f2 hs1) (fun z => by rw [f] at z; exact absurd z (by decide))
                  rw [f] at hr ⊢
                  rw [if_neg n12, if_pos rfl] at hr
                  rw [if_pos rfl, ib_mono f2 hs1, ck_mk]
                  rcases hC.b ((F 41 y).toNatClampNeg) (by have := ib_lt f2; omega) with z | z
                  · rw [z] at hr ⊢
                    rw [if_pos rfl] at hr
                    rw [show bb 0 = true from rfl, ck_mk, cl_mk, if_pos rfl, hr]
                  · rw [z] at hr ⊢
                    rw [if_neg n10] at hr
                    rw [show bb 1 = true from rfl, ck_mk, cl_mk, if_neg n10, a1, cl_mk, hr]
                · have a1 := adr (fun z => by rw [f] at z; exact absurd z (by decide)) (fun z => by rw [f] at z; exact absurd z (by decide))
                  rw [f] at hr ⊢
                  rw [if_pos rfl] at hr
                  rw [if_neg n21, if_neg n23, if_pos rfl, cl_mk, if_neg n10, a1, cl_mk, hr]
                · have a1 := adr (fun z => by rw [f] at z; exact absurd z (by decide)) (fun _ => by rw [f2]; exact hn)
                  rw [f] at hr ⊢
                  rw [if_neg n32, if_neg n31, if_pos rfl] at hr
                  rw [if_neg n31, if_pos rfl, f2, hn, ck_mk]
                  rcases hC.e ((V1 22 y).toNatClampNeg) (ib_lt hn) with z | z
                  · rw [z] at hr ⊢
                    rw [if_pos rfl] at hr
                    rw [show bb 0 = true from rfl, ck_mk, cl_mk, if_pos rfl, hr]
                  · rw [z] at hr ⊢
                    rw [if_neg n10] at hr
                    rw [show bb 1 = true from rfl, ck_mk, cl_mk, if_neg n10, a1, cl_mk, hr]
            · rw [← hr]
              rcases three g2 with e | ⟨k0, e⟩ | ⟨k0, k1, e⟩
              · rw [if_pos e, if_pos e]
              · rw [if_neg k0, if_pos e, if_neg k0, if_pos e]
                by_cases c1 : F 40 y = 1
                · rw [if_pos c1, if_pos c1]
                · rw [if_neg c1, if_neg c1]
              · rw [if_neg k0, if_neg k1, if_neg k0, if_neg k1]
                by_cases c2 : F 40 y = 2
                · rw [if_pos c2, if_pos c2]
                · rw [if_neg c2, if_neg c2]
                  by_cases c1 : F 40 y = 1
                  · rw [if_pos c1, if_pos c1]
                    by_cases c3 : F 43 ((F 41 y).toNatClampNeg) = 0
                    · rw [if_pos c3, if_pos c3]
                    · rw [if_neg c3, if_neg c3]
                  · rw [if_neg c1, if_neg c1]
                    by_cases c3 : F 40 y = 3
                    · rw [if_pos c3, if_pos c3]
                      by_cases c4 : F 44 ((V1 22 y).toNatClampNeg) = 0
                      · rw [if_pos c4, if_pos c4]
                      · rw [if_neg c4, if_neg c4]
                    · rw [if_neg c3, if_neg c3]
          exact go _ rfl
      · refine st_thr (V := V) (M := M) (e := 0) (k := 2) (b := 0) ?_ (by decide) (by decide) ?_ (hI.thr 2)
        · unfold f_Ly_means
          have h0 : ¬ q = 0 := fun e => g2 (by rw [e]; decide)
          have h1 : ¬ q = 1 := fun e => g2 (by rw [e]; decide)
          have h2 : ¬ q = 2 := fun e => g2 (by rw [e]; decide)
          rw [ask1 l1, clT_mk, syHas_eq hw, if_pos g, cl_mk, if_neg n10, if_neg h0, if_neg h1, if_neg h2]
        · unfold f_Mo_means
          simp only [jn_mk, l2, i10, if_false, hh, hh2, if_pos g, if_neg g2, cl_mk, refuse_01, if_true]
    · refine st_thr (V := V) (M := M) (e := 0) (k := 2) (b := 0) ?_ (by decide) (by decide) ?_ (hI.thr 2)
      · unfold f_Ly_means
        rw [ask1 l1, clT_mk, syHas_eq hw, if_neg g, cl_mk, if_pos rfl]
      · unfold f_Mo_means
        simp only [jn_mk, l2, i10, if_false, hh, if_neg g, cl_mk, refuse_01, if_true]
