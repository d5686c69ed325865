/-! The reference's mended words. -/
def mwd (V X : Sto) (l : List Nat) (p w : Int32) : Int32 := l.foldl (fun w r => if V 28 r = p then mdv V X w r else w) w
theorem mwd_app (V X : Sto) (l : List Nat) (r : Nat) (p w : Int32) : mwd V X (l ++ [r]) p w = if V 28 r = p then mdv V X (mwd V X l p w) r else mwd V X l p w := by
  unfold mwd
  rw [List.foldl_append]
  rfl
theorem Rl_find {V : Sto} {P : Nat → Bool} {s i : Nat} (hn : (Rl V i s).find? P = none) (hs : sec V i = s) (hp : P i = true) (hi : i < (V 4 0).toNatClampNeg) : (Rl V ((V 4 0).toNatClampNeg) s).find? P = some i := by
  have hf : ∀ d, i + 1 + d ≤ (V 4 0).toNatClampNeg → (Rl V (i + 1 + d) s).find? P = some i := by
    intro d
    induction d with
    | zero =>
      intro _
      show (Rl V (i + 1) s).find? P = some i
      rw [Rl_succ, if_pos hs, find_app, hn]
      simp [hp]
    | succ d ih =>
      intro hd
      rw [show i + 1 + (d + 1) = (i + 1 + d) + 1 by omega, Rl_succ]
      by_cases e : sec V (i + 1 + d) = s
      · rw [if_pos e, find_app, ih (by omega)]
        rfl
      · rw [if_neg e]; exact ih (by omega)
  have := hf ((V 4 0).toNatClampNeg - (i + 1)) (by omega)
  rw [show i + 1 + ((V 4 0).toNatClampNeg - (i + 1)) = (V 4 0).toNatClampNeg by omega] at this
  exact this
theorem ord_find {V : Sto} {P : Nat → Bool} {s r : Nat} (hn : (ordTo V s).find? P = none) (hs : s < (V 2 0).toNatClampNeg) (hr : (Rl V ((V 4 0).toNatClampNeg) s).find? P = some r) : (ord V).find? P = some r := by
  have hf : ∀ d, s + 1 + d ≤ (V 2 0).toNatClampNeg → (ordTo V (s + 1 + d)).find? P = some r := by
    intro d
    induction d with
    | zero =>
      intro _
      show (ordTo V (s + 1)).find? P = some r
      rw [ordTo_succ, find_app, hn, hr]
      rfl
    | succ d ih =>
      intro hd
      rw [show s + 1 + (d + 1) = (s + 1 + d) + 1 by omega, ordTo_succ, find_app, ih (by omega)]
      rfl
  have := hf ((V 2 0).toNatClampNeg - (s + 1)) (by omega)
  rw [show s + 1 + ((V 2 0).toNatClampNeg - (s + 1)) = (V 2 0).toNatClampNeg by omega] at this
  exact this
def MW (V F X : Sto) (s i : Nat) (Z : Sto) : Prop :=
  (∀ t, t < s → stg F t = true → ¬ V 16 t = 2 → ∀ k, k < (V 17 t).toNatClampNeg / 4 → Z 29 ((V 19 t).toNatClampNeg + k) = mwd V X (Rl V ((V 4 0).toNatClampNeg) t) (nI (4 * k)) (wdv V t k)) ∧
  (s < (V 2 0).toNatClampNeg → ¬ V 16 s = 2 → ∀ k, k < (V 17 s).toNatClampNeg / 4 → Z 29 ((V 19 s).toNatClampNeg + k) = mwd V X (Rl V i s) (nI (4 * k)) (wdv V s k)) ∧
  (∀ t, s < t → t < (V 2 0).toNatClampNeg → ¬ V 16 t = 2 → ∀ k, k < (V 17 t).toNatClampNeg / 4 → Z 29 ((V 19 t).toNatClampNeg + k) = wdv V t k)
theorem MW.a {V F X : Sto} {s i : Nat} {Z : Sto} (h : MW V F X s i Z) : ∀ t, t < s → stg F t = true → ¬ V 16 t = 2 → ∀ k, k < (V 17 t).toNatClampNeg / 4 → Z 29 ((V 19 t).toNatClampNeg + k) = mwd V X (Rl V ((V 4 0).toNatClampNeg) t) (nI (4 * k)) (wdv V t k) := h.1
theorem MW.b {V F X : Sto} {s i : Nat} {Z : Sto} (h : MW V F X s i Z) : s < (V 2 0).toNatClampNeg → ¬ V 16 s = 2 → ∀ k, k < (V 17 s).toNatClampNeg / 4 → Z 29 ((V 19 s).toNatClampNeg + k) = mwd V X (Rl V i s) (nI (4 * k)) (wdv V s k) := h.2.1
theorem MW.c {V F X : Sto} {s i : Nat} {Z : Sto} (h : MW V F X s i Z) : ∀ t, s < t → t < (V 2 0).toNatClampNeg → ¬ V 16 t = 2 → ∀ k, k < (V 17 t).toNatClampNeg / 4 → Z 29 ((V 19 t).toNatClampNeg + k) = wdv V t k := h.2.2
theorem mend40 {V S F X Y : Sto} (h : WF V) (hC : CT V S F) {b c : Nat} (hI : IQ V S F b X Y c) {Z : Sto} (hZ : Only [29] Y Z) {s : Nat} (hs : s < (V 2 0).toNatClampNeg) (hpre : (ordTo V s).find? (jmpP V F X) = none) (hW : MW V F X s 0 Z) {k74 k82 : Sto → RT} {Q : RT → Prop} (hbad : ∀ Z' r, Only [29] Y Z' → (ord V).find? (jmpP V F X) = some r → Q (k74 (flM Z' 5 (-1) (nI r)))) (hok : ∀ Z', Only [29] Y Z' → (ordTo V (s + 1)).find? (jmpP V F X) = none → MW V F X (s + 1) 0 Z' → Q (k82 Z')) : Q (lp_Mo_mend_40 (nI s) k74 k82 FU 0 Z) := by
  have hr1 := h.r1
  have hs1 := h.s1
  have hMZ : ∀ W, Only [29] Y W → MX V F W := fun W hW => hI.y.only hW (by decide)
  -- at the end of the section
  have fin : ∀ W, Only [29] Y W → (Rl V ((V 4 0).toNatClampNeg) s).find? (jmpP V F X) = none → (∀ t, t < s → stg F t = true → ¬ V 16 t = 2 → ∀ k, k < (V 17 t).toNatClampNeg / 4 → W 29 ((V 19 t).toNatClampNeg + k) = mwd V X (Rl V ((V 4 0).toNatClampNeg) t) (nI (4 * k)) (wdv V t k)) → (stg F s = true → ¬ V 16 s = 2 → ∀ k, k < (V 17 s).toNatClampNeg / 4 → W 29 ((V 19 s).toNatClampNeg + k) = mwd V X (Rl V ((V 4 0).toNatClampNeg) s) (nI (4 * k)) (wdv V s k)) → (∀ t, s < t → t < (V 2 0).toNatClampNeg → ¬ V 16 t = 2 → ∀ k, k < (V 17 t).toNatClampNeg / 4 → W 29 ((V 19 t).toNatClampNeg + k) = wdv V t k) → Q (k82 W) := by
    intro W w1 w2 w3 w4 w5
    refine hok W w1 ?_ ⟨fun t ht hst h2 => ?_, fun h1 h2 k hk => ?_, fun t ht htl h2 => w5 t (by omega) htl h2⟩
    · rw [ordTo_succ, find_app, hpre, w2]
      rfl
    · by_cases e : t = s
      · subst e; exact w4 hst h2
      · exact w3 t (by omega) hst h2
    · rw [w5 (s + 1) (by omega) h1 h2 k hk]
      rfl
  cases hst : stg F s with
  | false =>
    have hnone : (Rl V ((V 4 0).toNatClampNeg) s).find? (jmpP V F X) = none := by
      rw [List.find?_eq_none]
      intro r hr
      have := (Rl_mem.mp hr).2
      unfold jmpP
      rw [this, hst, Bool.false_and, Bool.and_false]
      decide
    have e : FU = 999999 + 1 := by unfold FU; rfl
    rw [e, lp_Mo_mend_40, stays_eq h (hMZ Z hZ) hs, hst, cl_mk, if_pos b2f]
    exact fin Z hZ hnone hW.a (fun z => by rw [hst] at z; cases z) hW.c
  | true =>
    refine forK (L := lp_Mo_mend_40 (nI s) k74 k82) (N := (V 4 0).toNatClampNeg) (Inv := fun i W => Only [29] Y W ∧ (Rl V i s).find? (jmpP V F X) = none ∧ MW V F X s i W) (Q := Q) (by omega) ?_ ?_ 0 Z (Nat.zero_le _) ⟨hZ, rfl, hW⟩
    · rintro n i W hi ⟨w1, w2, w3⟩ ih
      have hMW := hMZ W w1
      obtain ⟨sl, se⟩ := sec_lt h hi
      rw [lp_Mo_mend_40, stays_eq h hMW hs, hst, cl_mk, if_neg b2t, hMW.m.r.r0, if_neg (fun z => by have := (le_cnt h.r0 (by omega)).mp z; omega), ib_nI (show i < 600 by omega) (by decide), ck_mk, cI (by omega), hMW.m.r.rs, se, nI1]
      by_cases c0 : sec V i = s
      · rw [if_pos (by rw [c0]), mendOne_eq h hC hI w1 hi (by rw [c0]; exact hst)]
        cases hj : jmpP V F X i with
        | true =>
          rw [if_pos rfl, cl_mk, if_pos rfl]
          exact hbad W i w1 (ord_find hpre hs (Rl_find w2 c0 hj hi))
        | false =>
          rw [if_neg (show ¬ false = true by decide), cl_mk, if_neg (show ¬ (1 : Int32) = 0 by decide)]
          rw [c0]
          obtain ⟨p1, p2⟩ := h.rp i hi
          have hz2 : ¬ V 16 s = 2 := by rw [← c0]; exact (h.rs i hi).2
          have pl : (V 28 i).toNatClampNeg < (V 17 s).toNatClampNeg := by rw [← c0]; exact ib_lt p1
          have psz := ib_lt (h.sz s hs).1
          have h4 := (h.sz s hs).2
          have e28 : V 28 i = nI ((V 28 i).toNatClampNeg) := ib_eq p1
          have off : ∀ t k, t < (V 2 0).toNatClampNeg → t ≠ s → ¬ V 16 t = 2 → k < (V 17 t).toNatClampNeg / 4 → ¬ (V 19 t).toNatClampNeg + k = (V 19 s).toNatClampNeg + (V 28 i).toNatClampNeg / 4 := by
            intro t k ht hne htz hk z
            rcases Nat.lt_or_ge t s with g | g
            · have := h.fd t s g hs htz
              omega
            · have := h.fd s t (by omega) ht hz2
              omega
          have e29 : ∀ j, sw W 29 ((V 19 s).toNatClampNeg + (V 28 i).toNatClampNeg / 4) (mdv V X (W 29 ((V 19 s).toNatClampNeg + (V 28 i).toNatClampNeg / 4)) i) 29 j = if j = (V 19 s).toNatClampNeg + (V 28 i).toNatClampNeg / 4 then mdv V X (W 29 ((V 19 s).toNatClampNeg + (V 28 i).toNatClampNeg / 4)) i else W 29 j := fun j => sw_at _ _ _ _ _
          refine ih _ ⟨w1.sw (by decide), ?_, fun t ht hst2 h2 k hk => ?_, fun h1 h2 k hk => ?_, fun t ht htl h2 k hk => ?_⟩
          · rw [Rl_succ, if_pos c0, find_app, w2]
            simp [hj]
          · rw [e29, if_neg (off t k (by omega) (by omega) h2 hk)]
            exact w3.a t ht hst2 h2 k hk
          · rw [e29, Rl_succ, if_pos c0, mwd_app]
            by_cases e : k = (V 28 i).toNatClampNeg / 4
            · have e4 : 4 * k = (V 28 i).toNatClampNeg := by omega
              rw [if_pos (by rw [e]), if_pos (by rw [e4]; exact e28), ← e, w3.b h1 h2 k hk]
            · rw [if_neg (by omega), if_neg (fun z => e (by
                rw [e28] at z
                have := (nI_eq (by omega) (by omega)).mp z
                omega))]
              exact w3.b h1 h2 k hk
          · rw [e29, if_neg (off t k htl (by omega) h2 hk)]
            exact w3.c t ht htl h2 k hk
      · rw [if_neg (show ¬ nI (sec V i) = nI s from fun z => c0 ((nI_eq (by omega) (by omega)).mp z))]
        refine ih W ⟨w1, by rw [Rl_succ, if_neg c0]; exact w2, w3.a, fun h1 h2 k hk => ?_, w3.c⟩
        rw [Rl_succ, if_neg c0]
        exact w3.b h1 h2 k hk
    · rintro n W ⟨w1, w2, w3⟩
      have hMW := hMZ W w1
      rw [lp_Mo_mend_40, stays_eq h hMW hs, hst, cl_mk, if_neg b2t, hMW.m.r.r0, if_pos ((le_cnt h.r0 (by omega)).mpr (Nat.le_refl _))]
      exact fin W w1 w2 w3.a (fun _ z => w3.b hs z) w3.c
/-- the mended words of all that stands -/
abbrev MWs (V F X Z : Sto) : Prop := ∀ t, t < (V 2 0).toNatClampNeg → stg F t = true → ¬ V 16 t = 2 → ∀ k, k < (V 17 t).toNatClampNeg / 4 → Z 29 ((V 19 t).toNatClampNeg + k) = mwd V X (Rl V (V 4 0).toNatClampNeg t) (nI (4 * k)) (wdv V t k)
theorem mend_all {V S F X Y : Sto} (h : WF V) (hC : CT V S F) {b c : Nat} (hI : IQ V S F b X Y c) : ∃ Z, Only [29] Y Z ∧ ((∃ r, (ord V).find? (jmpP V F X) = some r ∧ f_Mo_mend Y = some (0, flM Z 5 (-1) (nI r))) ∨ ((ord V).find? (jmpP V F X) = none ∧ f_Mo_mend Y = some (1, Z) ∧ MWs V F X Z)) := by
  have hr1 := h.r1
  have hs1 := h.s1
  have hl1 := h.l1
  have ht1 := h.t1
  obtain ⟨Q, hQ⟩ : ∃ Q : RT → Prop, (fun x => ∃ Z, Only [29] Y Z ∧ ((∃ r, (ord V).find? (jmpP V F X) = some r ∧ x = some (0, flM Z 5 (-1) (nI r))) ∨ ((ord V).find? (jmpP V F X) = none ∧ x = some (1, Z) ∧ MWs V F X Z))) = Q := ⟨_, rfl⟩
  suffices hq : Q (f_Mo_mend Y) by rw [← hQ] at hq; exact hq
  have l2 : ∀ T, Only [29] Y T → MW V F X 0 0 T → Q (lp_Mo_mend_30 (fun V7 => some (0, V7)) (fun V8 => some (1, V8)) FU 0 T) := by
    intro T hT hW
    refine forK (L := lp_Mo_mend_30 (fun V7 => some (0, V7)) (fun V8 => some (1, V8))) (N := (V 2 0).toNatClampNeg) (Inv := fun s Z => Only [29] Y Z ∧ (ordTo V s).find? (jmpP V F X) = none ∧ MW V F X s 0 Z) (Q := Q) (by omega) ?_ ?_ 0 T (Nat.zero_le _) ⟨hT, rfl, hW⟩
    · rintro n s Z hs ⟨z1, z2, z3⟩ ih
      have hMZ : MX V F Z := hI.y.only z1 (by decide)
      rw [lp_Mo_mend_30, hMZ.m.r.s0, if_neg (fun z => by have := (le_cnt h.s0 (by omega)).mp z; omega), nI1]
      refine mend40 h hC hI z1 hs z2 z3 (fun W r w1 w2 => ?_) (fun W w1 w2 w3 => ih W ⟨w1, w2, w3⟩)
      rw [← hQ]
      exact ⟨W, w1, Or.inl ⟨r, w2, rfl⟩⟩
    · rintro n Z ⟨z1, z2, z3⟩
      have hMZ : MX V F Z := hI.y.only z1 (by decide)
      rw [lp_Mo_mend_30, hMZ.m.r.s0, if_pos ((le_cnt h.s0 (by omega)).mpr (Nat.le_refl _)), ← hQ]
      exact ⟨Z, z1, Or.inr ⟨z2, rfl, fun t ht a b k hk => z3.a t ht a b k hk⟩⟩
  unfold f_Mo_mend
  obtain ⟨K, hK⟩ : ∃ K : Sto → RT, (fun V2 => lp_Mo_mend_30 (fun V7 => some (0, V7)) (fun V8 => some (1, V8)) FU 0 V2) = K := ⟨_, rfl⟩
  rw [hK]
  have l2' : ∀ T, Only [29] Y T → MW V F X 0 0 T → Q (K T) := by rw [← hK]; exact l2
  have hy := hI.y
  refine forK (L := lp_Mo_mend_2 K) (N := (V 2 2).toNatClampNeg) (Inv := fun i Z => Only [29] Y Z ∧ ∀ k, k < i → Z 29 k = V 14 k) (Q := Q) (by omega) ?_ ?_ 0 Y (Nat.zero_le _) ⟨Only.refl, fun k hk => absurd hk (Nat.not_lt_zero _)⟩
  · rintro n i Z hi ⟨z1, z2⟩ ih
    have hMZ : MX V F Z := hy.only z1 (by decide)
    rw [lp_Mo_mend_2, hMZ.m.r.t0, if_neg (fun z => by have := (le_cnt h.t0 (by omega)).mp z; omega), ib_nI (show i < 100000 by omega) (by decide), ck_mk, ck_mk, nm_mk, cI (by omega), hMZ.m.r.wd i hi, nI1]
    refine ih _ ⟨z1.sw (by decide), fun k hk => ?_⟩
    rw [sw_at]
    by_cases e : k = i
    · rw [if_pos e, e]
    · rw [if_neg e]; exact z2 k (by omega)
  · rintro n Z ⟨z1, z2⟩
    have hMZ : MX V F Z := hy.only z1 (by decide)
    rw [lp_Mo_mend_2, hMZ.m.r.t0, if_pos ((le_cnt h.t0 (by omega)).mpr (Nat.le_refl _))]
    refine l2' Z z1 ⟨fun t ht => absurd ht (Nat.not_lt_zero _), fun h1 h2 k hk => ?_, fun t ht htl h2 k hk => ?_⟩
    · have := (h.fw 0 h1).2 h2
      rw [z2 _ (by omega)]
      rfl
    · have := (h.fw t htl).2 h2
      rw [z2 _ (by omega)]
      rfl
