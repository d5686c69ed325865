/-! The reference's names stand as the class's do. -/
def flM (N : Sto) (a b c : Int32) : Sto := sw (sw (sw N 0 30 a) 0 31 b) 0 32 c
theorem fail_eq (N : Sto) (a b c : Int32) : f_Mo_fail N a b c = some (0, flM N a b c) := rfl
/-- the reference's two rows of names, as the class's state gives them -/
def NM (V : Sto) (W M : Sto) : Prop :=
  (∀ n, n < 200 → M 21 n = dfr W n) ∧
  (∀ n, n < 200 → M 22 n = if W 37 n = -1 then W 39 n else 0)
theorem NM.d {V : Sto} {W M : Sto} (h : NM V W M) : ∀ n, n < 200 → M 21 n = dfr W n := h.1
theorem NM.c {V : Sto} {W M : Sto} (h : NM V W M) : ∀ n, n < 200 → M 22 n = if W 37 n = -1 then W 39 n else 0 := h.2
theorem two_iff {V : Sto} {A : Nat → Bool} {P : Nat → Prop} (hP : ∀ y, y < (V 3 0).toNatClampNeg → P y) {n : Nat} : TwoP V A P n ↔ Two V A ((V 3 0).toNatClampNeg) n := by
  constructor
  · rintro ⟨y, z, a1, a2, a3, -, -, a6, a7⟩
    rcases Nat.lt_or_ge y z with e | e
    · exact ⟨y, z, e, a3, a6, a7⟩
    · exact ⟨z, y, by omega, a2, a7, a6⟩
  · rintro ⟨y, z, a1, a2, a3, a4⟩
    exact ⟨y, z, by omega, by omega, a2, hP y (by omega), hP z a2, a3, a4⟩
theorem twice_same {V : Sto} {A : Nat → Bool} {P : Nat → Prop} (hP : ∀ y, y < (V 3 0).toNatClampNeg → P y) {x z : Int32} (h1 : NT V A ((V 3 0).toNatClampNeg) x) (h2 : MT V A P z) : (x = -1 ∧ z = 200 ∧ ∀ n, n < 200 → ¬ Two V A ((V 3 0).toNatClampNeg) n) ∨ (¬ x = -1 ∧ ¬ z = 200 ∧ z = x) := by
  rcases h1 with ⟨a1, a2⟩ | ⟨n, a1, a2, a3, a4⟩
  · rcases h2 with ⟨b1, b2⟩ | ⟨m, b1, b2, b3, b4⟩
    · exact Or.inl ⟨a1, b1, a2⟩
    · exact absurd ((two_iff hP).mp b3) (a2 m b1)
  · rcases h2 with ⟨b1, b2⟩ | ⟨m, b1, b2, b3, b4⟩
    · exact absurd ((two_iff hP).mpr a3) (b2 n a1)
    · have : n = m := by
        rcases Nat.lt_trichotomy n m with e | e | e
        · exact absurd ((two_iff hP).mpr a3) (b4 n e)
        · exact e
        · exact absurd ((two_iff hP).mp b3) (a4 m e)
      subst this
      refine Or.inr ⟨by rw [a2]; exact m1_ne n (by omega), ?_, by rw [a2, b2]⟩
      rw [b2]
      show ¬ nI n = nI 200
      rw [nI_eq (by omega) (by omega)]
      omega
/-- what the reference's third loop makes of a name -/
theorem def_same {V W : Sto} (h : WF V) {A : Nat → Bool} (hN : N1 V A ((V 3 0).toNatClampNeg) W) (ht : ∀ n, n < 200 → ¬ Two V A ((V 3 0).toNatClampNeg) n) {P : Nat → Prop} (hP : ∀ y, y < (V 3 0).toNatClampNeg → P y) {n : Nat} (hn : n < 200) {x : Int32} (hx : MD V A P n x) : (∃ y, y < (V 3 0).toNatClampNeg ∧ x = nI y ∧ gB V A 1 n y = true ∧ W 37 n = nI y) ∨ (W 37 n = -1 ∧ (x = -1 ∨ ∃ y, y < (V 3 0).toNatClampNeg ∧ x = nI y ∧ gB V A 2 n y = true) ∧ x = W 38 n) := by
  have hy1 := h.y1
  rcases hx with ⟨a1, a2⟩ | ⟨y, a1, a2, a3, a4⟩ | ⟨a0, y, a1, a2, a3, a4, a5⟩
  · refine Or.inr ⟨?_, Or.inl a1, ?_⟩
    · rcases hN.g n hn with ⟨g1, g2⟩ | ⟨z, g1, g2, g3⟩
      · exact g1
      · rw [(a2 z g1 (hP z g1)).1] at g3; cases g3
    · rcases hN.w n hn with ⟨g1, g2⟩ | ⟨z, g1, g2, g3, g4⟩
      · rw [a1, g1]
      · rw [(a2 z g1 (hP z g1)).2] at g3; cases g3
  · refine Or.inl ⟨y, a1, a3, a4, ?_⟩
    rcases hN.g n hn with ⟨g1, g2⟩ | ⟨z, g1, g2, g3⟩
    · rw [g2 y a1] at a4; cases a4
    · have : z = y := by
        rcases Nat.lt_trichotomy z y with e | e | e
        · exact absurd ⟨z, y, e, a1, g3, a4⟩ (ht n hn)
        · exact e
        · exact absurd ⟨y, z, e, g1, a4, g3⟩ (ht n hn)
      rw [g2, this]
  · refine Or.inr ⟨?_, Or.inr ⟨y, a1, a3, a4⟩, ?_⟩
    · rcases hN.g n hn with ⟨g1, g2⟩ | ⟨z, g1, g2, g3⟩
      · exact g1
      · rw [a0 z g1 (hP z g1)] at g3; cases g3
    · rcases hN.w n hn with ⟨g1, g2⟩ | ⟨z, g1, g2, g3, g4⟩
      · rw [g2 y a1] at a4; cases a4
      · have e1 := a5 z g1 (hP z g1) g3
        have e2 := g4 y a1 a4
        have hyz : dU V y = dU V z := by omega
        have hu : V 21 y = V 21 z := ib_inj (h.yu y a1) (h.yu z g1) hyz
        have hm : V 22 y = V 22 z := ib_inj (h.yn y a1) (h.yn z g1) ((gB_iff.mp a4).2.2.2.trans (gB_iff.mp g3).2.2.2.symm)
        have hby := (gB_iff.mp a4).2.2.1
        have hbz := (gB_iff.mp g3).2.2.1
        have : z = y := by
          rcases Nat.lt_trichotomy z y with e | e | e
          · have := h.uq z y e a1 hu.symm hm.symm (by rw [hbz]; decide)
            rw [hby] at this
            exact absurd this (by decide)
          · exact e
          · have := h.uq y z e g1 hu hm (by rw [hby]; decide)
            rw [hbz] at this
            exact absurd this (by decide)
        rw [a3, g2, this]
theorem define_eq {V M W : Sto} (h : WF V) {A : Nat → Bool} (hM : MI V A M) (hN : N1 V A ((V 3 0).toNatClampNeg) W) : ∃ N, Only [21, 22] M N ∧ ((W 6 5 = -1 ∧ f_Mo_define M = some (1, N) ∧ NM V W N) ∨ (¬ W 6 5 = -1 ∧ f_Mo_define M = some (0, flM N 1 (W 6 5) (-1)))) := by
  have hy1 := h.y1
  have hu1 := h.u1
  obtain ⟨Q, hQ⟩ : ∃ Q : RT → Prop, (fun r => ∃ N, Only [21, 22] M N ∧ ((W 6 5 = -1 ∧ r = some (1, N) ∧ NM V W N) ∨ (¬ W 6 5 = -1 ∧ r = some (0, flM N 1 (W 6 5) (-1))))) = Q := ⟨_, rfl⟩
  have hQ' : ∀ r, Q r ↔ ∃ N, Only [21, 22] M N ∧ ((W 6 5 = -1 ∧ r = some (1, N) ∧ NM V W N) ∨ (¬ W 6 5 = -1 ∧ r = some (0, flM N 1 (W 6 5) (-1)))) := fun r => by rw [← hQ]
  suffices hq : Q (f_Mo_define M) from (hQ' _).mp hq
  -- the last loop
  have l4 : ∀ (z : Int32) (T : Sto), Only [21, 22] M T → MD1 V A (vis V ((V 1 0).toNatClampNeg) 0) z T → (∀ n, n < 200 → T 22 n = nI (cz V A n ((V 3 0).toNatClampNeg))) → Q (lp_Mo_define_311 (fun V13 => if z = 200 then some (1, V13) else cl (f_Mo_fail V13 1 z (-1)) fun r1 V14 => if r1 = 0 then some (0, V14) else some (1, V14)) FU 0 T) := by
    intro z T hT hD hC
    have hP : ∀ y, y < (V 3 0).toNatClampNeg → vis V ((V 1 0).toNatClampNeg) 0 y := fun y hy => Or.inl (ib_lt (h.yu y hy))
    refine forK (L := lp_Mo_define_311 (fun V13 => if z = 200 then some (1, V13) else cl (f_Mo_fail V13 1 z (-1)) fun r1 V14 => if r1 = 0 then some (0, V14) else some (1, V14))) (N := 200) (Inv := fun i X => Only [21, 22] M X ∧ (∀ n, i ≤ n → n < 200 → X 21 n = T 21 n ∧ X 22 n = T 22 n) ∧ (W 6 5 = -1 → ∀ n, n < i → X 21 n = dfr W n ∧ X 22 n = if W 37 n = -1 then W 39 n else 0)) (Q := Q) (by omega) ?_ ?_ 0 T (Nat.zero_le _) ⟨hT, fun n _ _ => ⟨rfl, rfl⟩, fun _ n hn => absurd hn (Nat.not_lt_zero _)⟩
    · rintro m i X hi ⟨x1, x2, x3⟩ ih
      have hr : RelD V X := hM.r.only x1 (by decide)
      obtain ⟨e21, e22⟩ := x2 i (Nat.le_refl _) hi
      have hcl := cz_le h (A := A) (n := i) ((V 3 0).toNatClampNeg) (Nat.le_refl _)
      have go : ∀ Y, Only [21, 22] X Y → (∀ n, n ≠ i → Y 21 n = X 21 n ∧ Y 22 n = X 22 n) → (W 6 5 = -1 → Y 21 i = dfr W i ∧ Y 22 i = if W 37 i = -1 then W 39 i else 0) → Q (lp_Mo_define_311 (fun V13 => if z = 200 then some (1, V13) else cl (f_Mo_fail V13 1 z (-1)) fun r1 V14 => if r1 = 0 then some (0, V14) else some (1, V14)) m (nI (i + 1)) Y) := by
        intro Y y1 y2 y3
        refine ih Y ⟨x1.trans y1, fun n hn1 hn2 => ?_, fun hw n hn => ?_⟩
        · obtain ⟨f1, f2⟩ := y2 n (by omega)
          rw [f1, f2]
          exact x2 n (by omega) hn2
        · by_cases e : n = i
          · rw [e]; exact y3 hw
          · obtain ⟨f1, f2⟩ := y2 n e
            rw [f1, f2]
            exact x3 hw n (by omega)
      have hMD := hD.d i hi
      have same := twice_same hP hN.t hD.t
      have hnt : W 6 5 = -1 → ∀ n, n < 200 → ¬ Two V A ((V 3 0).toNatClampNeg) n := fun hw => by
        rcases same with ⟨-, -, s⟩ | ⟨s, -⟩
        · exact s
        · exact absurd hw s
      rw [lp_Mo_define_311, if_neg (fun z => by have := (nI_le_iff (a := 200) (by omega) (by omega)).mp z; omega), ib_nI hi (by decide), cI (by omega), e21, e22, hr.yb, hC i hi, nI1]
      simp only [ck_mk, jn_mk, nm_mk, i10, if_true, if_false]
      have hle : (nI (cz V A i ((V 3 0).toNatClampNeg)) ≤ 0) ↔ cz V A i ((V 3 0).toNatClampNeg) = 0 := by
        show (nI (cz V A i ((V 3 0).toNatClampNeg)) ≤ nI 0) ↔ _
        rw [nI_le_iff (by omega) (by omega)]
        omega
      -- no global one
      have nog : (∀ y, y < (V 3 0).toNatClampNeg → gB V A 1 i y = false) → Q (if nI (cz V A i ((V 3 0).toNatClampNeg)) ≤ 0 then lp_Mo_define_311 (fun V13 => if z = 200 then some (1, V13) else cl (f_Mo_fail V13 1 z (-1)) fun r1 V14 => if r1 = 0 then some (0, V14) else some (1, V14)) m (nI (i + 1)) X else lp_Mo_define_311 (fun V13 => if z = 200 then some (1, V13) else cl (f_Mo_fail V13 1 z (-1)) fun r1 V14 => if r1 = 0 then some (0, V14) else some (1, V14)) m (nI (i + 1)) (sw X 21 i (-1))) := by
        intro hno
        have h37 : W 37 i = -1 := by
          rcases hN.g i hi with ⟨g1, -⟩ | ⟨y, g1, -, g3⟩
          · exact g1
          · rw [hno y g1] at g3; cases g3
        have h39 := hN.c i hi
        by_cases c : nI (cz V A i ((V 3 0).toNatClampNeg)) ≤ 0
        · rw [if_pos c]
          refine go X Only.refl (fun n _ => ⟨rfl, rfl⟩) (fun hw => ⟨?_, ?_⟩)
          · rcases def_same h hN (hnt hw) hP hi hMD with ⟨y, s1, s2, s3, s4⟩ | ⟨s1, s2, s3⟩
            · rw [hno y s1] at s3; cases s3
            · rw [e21, s3]
              unfold dfr icm
              rw [if_pos h37, h39, decide_eq_true c, Bool.not_true, Bool.and_false, if_neg (by decide)]
          · rw [if_pos h37, e22, hC i hi, h39]
        · rw [if_neg c]
          refine go _ (Only.refl.sw (by decide)) (fun n hn => ⟨by rw [sw_at, if_neg hn], by rw [sw_ne (by decide)]⟩) (fun hw => ⟨?_, ?_⟩)
          · rw [sw_at, if_pos rfl]
            unfold dfr icm
            rw [if_pos h37, h39, decide_eq_false c, decide_eq_true h37, Bool.not_false, Bool.and_true, if_pos rfl]
          · rw [sw_ne (by decide), if_pos h37, e22, hC i hi, h39]
      rcases hMD with ⟨a1, a2⟩ | ⟨y, a1, a2, a3, a4⟩ | ⟨a0, y, a1, a2, a3, a4, a5⟩
      · rw [if_pos a1]
        exact nog (fun y hy => (a2 y hy (hP y hy)).1)
      · rw [if_neg (by rw [a3]; exact m1_ne y (by omega)), a3, ib_nI (show y < 400 by omega) (by decide), cI (show y < 2 ^ 31 by omega), if_pos (gB_iff.mp a4).2.2.1]
        simp only [ck_mk]
        refine go _ (Only.refl.sw (by decide)) (fun n hn => ⟨by rw [sw_ne (by decide)], by rw [sw_at, if_neg hn]⟩) (fun hw => ?_)
        rcases def_same h hN (hnt hw) hP hi (hD.d i hi) with ⟨y', s1, s2, s3, s4⟩ | ⟨s1, s2, s3⟩
        · have hne : ¬ W 37 i = -1 := by rw [s4]; exact m1_ne y' (by omega)
          refine ⟨?_, ?_⟩
          · rw [sw_ne (by decide), e21, s2]
            unfold dfr
            rw [if_neg hne, s4]
          · rw [sw_at, if_pos rfl, if_neg hne]
        · exfalso
          rcases hN.g i hi with ⟨g1, g2⟩ | ⟨z, g1, g2, g3⟩
          · rw [g2 y a1] at a4; cases a4
          · rw [g2] at s1; exact m1_ne z (by omega) s1
      · rw [if_neg (by rw [a3]; exact m1_ne y (by omega)), a3, ib_nI (show y < 400 by omega) (by decide), cI (show y < 2 ^ 31 by omega), if_neg (by rw [(gB_iff.mp a4).2.2.1]; decide)]
        simp only [ck_mk]
        exact nog (fun y hy => a0 y hy (hP y hy))
    · rintro m X ⟨x1, x2, x3⟩
      rw [lp_Mo_define_311, if_pos (show (200 : Int32) ≤ nI 200 from (nI_le_iff (a := 200) (by omega) (by omega)).mpr (Nat.le_refl _)), hQ']
      rcases twice_same hP hN.t hD.t with ⟨s1, s2, s3⟩ | ⟨s1, s2, s3⟩
      · rw [if_pos s2]
        exact ⟨X, x1, Or.inl ⟨s1, rfl, fun n hn => (x3 s1 n hn).1, fun n hn => (x3 s1 n hn).2⟩⟩
      · rw [if_neg s2, fail_eq, cl_mk, if_pos rfl, s3]
        exact ⟨X, x1, Or.inr ⟨s1, rfl⟩⟩
  obtain ⟨K4, hK4⟩ : ∃ K : Int32 → Sto → RT, (fun y2 V10 => lp_Mo_define_311 (fun V13 => if y2 = 200 then some (1, V13) else cl (f_Mo_fail V13 1 y2 (-1)) fun r1 V14 => if r1 = 0 then some (0, V14) else some (1, V14)) FU 0 V10) = K := ⟨_, rfl⟩
  have l4' : ∀ (z : Int32) (T : Sto), Only [21, 22] M T → MD1 V A (vis V ((V 1 0).toNatClampNeg) 0) z T → (∀ n, n < 200 → T 22 n = nI (cz V A n ((V 3 0).toNatClampNeg))) → Q (K4 z T) := by rw [← hK4]; exact l4
  have l3 : ∀ T : Sto, Only [21, 22] M T → MD1 V A (vis V 0 0) 200 T → (∀ n, n < 200 → T 22 n = nI (cz V A n ((V 3 0).toNatClampNeg))) → Q (lp_Mo_define_122 K4 FU 200 0 T) := by
    intro T hT hD hC
    have key := forK (σ := Int32 × Sto) (L := fun n i T => lp_Mo_define_122 K4 n T.1 i T.2) (N := (V 1 0).toNatClampNeg) (Inv := fun i X => Only [21] T X.2 ∧ MD1 V A (vis V i 0) X.1 X.2) (Q := Q) (by omega) (by
      rintro m i ⟨x, X⟩ hi ⟨x1, x2⟩ ih
      simp only at x1 x2
      have hO : Only [21, 22] M X := hT.trans (x1.mono (by decide))
      have hr : RelD V X := hM.r.only hO (by decide)
      show Q (lp_Mo_define_122 K4 (m + 1) x (nI i) X)
      rw [lp_Mo_define_122, hr.u0, if_neg (fun z => by have := (le_cnt h.u0 (by omega)).mp z; omega), nI1]
      refine def132 h ⟨hr, fun u hu => by rw [hO 20 (by decide)]; exact hM.u u hu⟩ hi x2 (fun x' Y y1 y2 => ?_)
      exact ih (x', Y) ⟨x1.trans y1, y2⟩) (by
      rintro m ⟨x, X⟩ ⟨x1, x2⟩
      simp only at x1 x2
      have hO : Only [21, 22] M X := hT.trans (x1.mono (by decide))
      have hr : RelD V X := hM.r.only hO (by decide)
      show Q (lp_Mo_define_122 K4 (m + 1) x (nI ((V 1 0).toNatClampNeg)) X)
      rw [lp_Mo_define_122, hr.u0, if_pos ((le_cnt h.u0 (by omega)).mpr (Nat.le_refl _))]
      exact l4' x X hO x2 (fun n hn => by rw [x1 22 (by decide)]; exact hC n hn)) 0 (200, T) (Nat.zero_le _) ⟨Only.refl, hD⟩
    exact key
  obtain ⟨K3, hK3⟩ : ∃ K : Sto → RT, (fun V5 => lp_Mo_define_122 K4 FU 200 0 V5) = K := ⟨_, rfl⟩
  have l3' : ∀ T : Sto, Only [21, 22] M T → MD1 V A (vis V 0 0) 200 T → (∀ n, n < 200 → T 22 n = nI (cz V A n ((V 3 0).toNatClampNeg))) → Q (K3 T) := by rw [← hK3]; exact l3
  have l2 : ∀ T : Sto, Only [21, 22] M T → (∀ n, n < 200 → T 21 n = -1 ∧ T 22 n = 0) → Q (lp_Mo_define_35 K3 FU 0 T) := by
    intro T hT h0
    refine forK (L := lp_Mo_define_35 K3) (N := (V 3 0).toNatClampNeg) (Inv := fun i X => Only [22] T X ∧ ∀ n, n < 200 → X 22 n = nI (cz V A n i)) (Q := Q) (by omega) ?_ ?_ 0 T (Nat.zero_le _) ⟨Only.refl, fun n hn => (h0 n hn).2⟩
    · rintro m i X hi ⟨x1, x2⟩ ih
      have hO : Only [21, 22] M X := hT.trans (x1.mono (by decide))
      have hr : RelD V X := hM.r.only hO (by decide)
      have hul : dU V i < (V 1 0).toNatClampNeg := ib_lt (h.yu i hi)
      have e20 : X 20 (V 21 i).toNatClampNeg = b2 (A (dU V i)) := by rw [hO 20 (by decide)]; exact hM.u _ hul
      have ef : X 10 i = 1 ↔ V 24 i = 0 := by rw [hr.yf i hi]; exact srt1'
      have hn := h.yn i hi
      obtain ⟨n0, hn0⟩ : ∃ n0, dN V i = n0 := ⟨_, rfl⟩
      have hnl : n0 < 200 := by rw [← hn0]; exact ib_lt hn
      have e22 : V 22 i = nI n0 := by rw [← hn0]; exact ib_eq hn
      have skip : (∀ n, gB V A 3 n i = false) → Q (lp_Mo_define_35 K3 m (nI (i + 1)) X) := fun hf => ih X ⟨x1, fun n hnn => by
        show X 22 n = nI (if gB V A 3 n i = true then _ else cz V A n i)
        rw [hf n]
        exact x2 n hnn⟩
      rw [lp_Mo_define_35, hr.y0, if_neg (fun z => by have := (le_cnt h.y0 (by omega)).mp z; omega), ib_nI (show i < 400 by omega) (by decide), cI (show i < 2 ^ 31 by omega), hr.yu, hr.yn, hr.yb, hr.yv, e20, ib_mono (h.yu i hi) hu1, e22, ib_nI hnl (by decide), cI (show n0 < 2 ^ 31 by omega), nI1]
      simp only [ck_mk, nm_mk]
      cases hA : A (dU V i) with
      | false =>
        rw [if_pos b2f]
        exact skip (fun n => gB_f (fun z => by rw [hA] at z; cases z.1))
      | true =>
        rw [if_neg b2t]
        by_cases c2 : V 24 i = 0
        · rw [if_pos (ef.mpr c2)]
          exact skip (fun n => gB_f (fun z => z.2.1 c2))
        · rw [if_neg (fun z => c2 (ef.mp z))]
          by_cases b3 : V 23 i = 3
          · rw [if_pos b3, x2 n0 hnl]
            have hgy : gB V A 3 n0 i = true := gB_iff.mpr ⟨hA, c2, b3, hn0⟩
            have hgo : ∀ n, n ≠ n0 → gB V A 3 n i = false := fun n hne => gB_f (fun z => hne (by rw [← hn0]; exact z.2.2.2.symm))
            have hv : ib (V 26 i) 8193 = true := by
              rcases h.yf i hi with ⟨e1, -⟩ | ⟨-, e, -⟩ | ⟨-, e, -⟩ | ⟨-, -, -, e, -⟩
              · exact absurd e1 c2
              · exact absurd b3 e
              · exact absurd b3 e
              · exact e
            have hvl := ib_lt hv
            have hve := ib_eq hv
            have hcl := cz_le h (A := A) (n := n0) i (by omega)
            have hle : V 26 i ≤ nI (cz V A n0 i) ↔ (V 26 i).toNatClampNeg ≤ cz V A n0 i := by
              have := nI_le_iff (a := (V 26 i).toNatClampNeg) (b := cz V A n0 i) (by omega) (by omega)
              rw [← hve] at this
              exact this
            by_cases c : V 26 i ≤ nI (cz V A n0 i)
            · rw [if_pos c]
              refine ih X ⟨x1, fun n hnn => ?_⟩
              show X 22 n = nI (if gB V A 3 n i = true then max (cz V A n i) ((V 26 i).toNatClampNeg) else cz V A n i)
              by_cases e : n = n0
              · rw [e, if_pos hgy, Nat.max_eq_left (hle.mp c)]; exact x2 n0 hnl
              · rw [hgo n e]; exact x2 n hnn
            · rw [if_neg c]
              refine ih _ ⟨x1.sw (by decide), fun n hnn => ?_⟩
              show _ = nI (if gB V A 3 n i = true then max (cz V A n i) ((V 26 i).toNatClampNeg) else cz V A n i)
              rw [sw_at]
              by_cases e : n = n0
              · have : ¬ (V 26 i).toNatClampNeg ≤ cz V A n0 i := fun z => c (hle.mpr z)
                rw [e, if_pos rfl, if_pos hgy, Nat.max_eq_right (by omega)]; exact hve
              · rw [if_neg e, hgo n e]; exact x2 n hnn
          · rw [if_neg b3]
            exact skip (fun n => gB_f (fun z => b3 z.2.2.1))
    · rintro m X ⟨x1, x2⟩
      have hO : Only [21, 22] M X := hT.trans (x1.mono (by decide))
      have hr : RelD V X := hM.r.only hO (by decide)
      rw [lp_Mo_define_35, hr.y0, if_pos ((le_cnt h.y0 (by omega)).mpr (Nat.le_refl _))]
      have hv : ∀ y, ¬ vis V 0 0 y := fun y z => by rcases z with z | z <;> omega
      refine l3' X hO ⟨fun n hn => Or.inl ⟨by rw [x1 21 (by decide)]; exact (h0 n hn).1, fun y _ hp => absurd hp (hv y)⟩, Or.inl ⟨rfl, fun n _ z => ?_⟩⟩ x2
      obtain ⟨y, z', -, -, -, hp, -⟩ := z
      exact hv y hp
  obtain ⟨K2, hK2⟩ : ∃ K : Sto → RT, (fun V3 => lp_Mo_define_35 K3 FU 0 V3) = K := ⟨_, rfl⟩
  have l2' : ∀ T : Sto, Only [21, 22] M T → (∀ n, n < 200 → T 21 n = -1 ∧ T 22 n = 0) → Q (K2 T) := by rw [← hK2]; exact l2
  unfold f_Mo_define
  rw [hK4, hK3, hK2]
  refine forK (L := lp_Mo_define_6 K2) (N := 200) (Inv := fun i X => Only [21, 22] M X ∧ ∀ n, n < i → X 21 n = -1 ∧ X 22 n = 0) (Q := Q) (by omega) ?_ ?_ 0 M (Nat.zero_le _) ⟨Only.refl, fun n hn => absurd hn (Nat.not_lt_zero _)⟩
  · rintro m i X hi ⟨x1, x2⟩ ih
    rw [lp_Mo_define_6, if_neg (fun z => by have := (nI_le_iff (a := 200) (by omega) (by omega)).mp z; omega), ib_nI hi (by decide), cI (by omega), nI1]
    simp only [ck_mk, nm_mk]
    refine ih _ ⟨(x1.sw (by decide)).sw (by decide), fun n hn => ?_⟩
    rw [sw_at, sw_ne (show (21 : Nat) ≠ 22 by decide), sw_at, sw_ne (show (22 : Nat) ≠ 21 by decide)]
    by_cases e : n = i
    · rw [if_pos e, if_pos e]; exact ⟨rfl, rfl⟩
    · rw [if_neg e, if_neg e]; exact x2 n (by omega)
  · rintro m X ⟨x1, x2⟩
    rw [lp_Mo_define_6, if_pos (show (200 : Int32) ≤ nI 200 from (nI_le_iff (a := 200) (by omega) (by omega)).mpr (Nat.le_refl _))]
    exact l2' X x1 x2
