/-! The class's arrivals, whole. -/
/-- the cells of a link -/
def lk (q : Nat) : Bool := decide (q = 0 ∨ (4 < q ∧ q < 12) ∨ q = 13 ∨ (31 < q ∧ q ≠ 1000))
/-- S holds the data of V -/
def Dat (V S : Sto) : Prop := ∀ q, lk q = false → S q = V q
theorem Dat.refl {V : Sto} : Dat V V := fun _ _ => rfl
theorem Dat.only {V S W : Sto} {L : List Nat} (h : Dat V S) (ho : Only L S W) (hl : ∀ q ∈ L, lk q = true) : Dat V W := fun q hq => by
  rw [ho q (fun z => by rw [hl q z] at hq; cases hq)]
  exact h q hq
def Ok (r : RT) (Q : Int32 → Sto → Prop) : Prop := ∃ x W, r = some (x, W) ∧ Q x W
theorem fst_lt {V : Sto} {A : Nat → Bool} {a u : Nat} (h : fstU V A a = some u) : u < (V 1 0).toNatClampNeg ∧ A u = false := by
  have h1 := List.mem_of_find?_eq_some h
  have h2 := List.find?_some h
  refine ⟨List.mem_range.mp h1, ?_⟩
  unfold cand at h2
  simp at h2
  exact h2.2.1
theorem begin_eq {V S : Sto} (h : WF V) (hd : Dat V S) : ∃ W, f_Ar_begin S (V 0 11) = some (0, W) ∧ Only [13, 35, 36] S W ∧ CI V (A0 V) W := by
  have hu1 := h.u1
  have d1 := hd 1 rfl
  have d12 := hd 12 rfl
  have d3 := hd 3 rfl
  have d21 := hd 21 rfl
  have d22 := hd 22 rfl
  have d23 := hd 23 rfl
  have d24 := hd 24 rfl
  -- the last loop
  have l3 : ∀ T : Sto, Only [13, 35, 36] S T → CI V (fun _ => false) T → ∃ W, lp_Ar_begin_69 (fun V9 => some (0, V9)) FU 0 T = some (0, W) ∧ Only [13, 35, 36] S W ∧ CI V (A0 V) W := by
    intro T hT hc
    refine forK (L := lp_Ar_begin_69 (fun V9 => some (0, V9))) (N := (V 1 0).toNatClampNeg) (Inv := fun i W => Only [13, 35, 36] S W ∧ CI V (fun u => decide (u < i) && decide (V 12 u = -1)) W) (Q := fun r => ∃ W, r = some (0, W) ∧ Only [13, 35, 36] S W ∧ CI V (A0 V) W) (by omega) ?_ ?_ 0 T (Nat.zero_le _) ⟨hT, ?_⟩
    · rintro n i W hi ⟨w1, w2⟩ ih
      rw [lp_Ar_begin_69, w2.c.2.2.2.2.2.2, if_neg (fun z => by have := (le_cnt h.u0 (by omega)).mp z; omega), ib_nI (by omega) (by decide), ck_mk, cI (by omega), w2.c.2.2.2.2.2.1, nI1]
      by_cases c : V 12 i = -1
      · rw [if_pos c]
        obtain ⟨X, x1, x2, x3⟩ := admit_eq h w2 hi
        rw [x1, cl_mk]
        refine ih X ⟨fun q hq => ?_, ?_⟩
        · simp at hq
          rw [x2 q hq.1 hq.2.1 hq.2.2]
          exact w1 q (by simp [hq])
        · have e : addU (fun u => decide (u < i) && decide (V 12 u = -1)) i = fun u => decide (u < i + 1) && decide (V 12 u = -1) := by
            funext u
            unfold addU
            by_cases e1 : u = i
            · subst e1; simp [c]
            · have : (u < i + 1) = (u < i) := by apply propext; omega
              simp [e1, this]
          rw [e] at x3
          exact x3
      · rw [if_neg c]
        refine ih W ⟨w1, ?_⟩
        have e : (fun u => decide (u < i) && decide (V 12 u = -1)) = fun u => decide (u < i + 1) && decide (V 12 u = -1) := by
          funext u
          by_cases e1 : u = i
          · subst e1; simp [c]
          · have : (u < i + 1) = (u < i) := by apply propext; omega
            simp [this]
        rw [e] at w2
        exact w2
    · rintro n W ⟨w1, w2⟩
      rw [lp_Ar_begin_69, w2.c.2.2.2.2.2.2, if_pos ((le_cnt h.u0 (by omega)).mpr (Nat.le_refl _))]
      exact ⟨W, rfl, w1, w2⟩
    · have e : (fun u => decide (u < 0) && decide (V 12 u = -1)) = fun _ => false := by funext u; simp
      rw [e]
      exact hc
  have l2 : ∀ T : Sto, Only [35, 36] S T → (∀ n, n < 200 → T 35 n = b2 (decide (V 0 11 = nI n)) ∧ T 36 n = 0) → ∃ W, lp_Ar_begin_40 (fun V7 => lp_Ar_begin_69 (fun V9 => some (0, V9)) FU 0 V7) FU 0 T = some (0, W) ∧ Only [13, 35, 36] S W ∧ CI V (A0 V) W := by
    intro T hT hc
    obtain ⟨K, hK⟩ : ∃ K : Sto → RT, (fun V7 => lp_Ar_begin_69 (fun V9 => some (0, V9)) FU 0 V7) = K := ⟨_, rfl⟩
    rw [hK]
    have hk : ∀ T : Sto, Only [13, 35, 36] S T → CI V (fun _ => false) T → ∃ W, K T = some (0, W) ∧ Only [13, 35, 36] S W ∧ CI V (A0 V) W := by
      rw [← hK]; exact l3
    refine forK (L := lp_Ar_begin_40 K) (N := (V 1 0).toNatClampNeg) (Inv := fun i W => Only [13] T W ∧ ∀ u, u < i → W 13 u = 0) (Q := fun r => ∃ W, r = some (0, W) ∧ Only [13, 35, 36] S W ∧ CI V (A0 V) W) (by omega) ?_ ?_ 0 T (Nat.zero_le _) ⟨Only.refl, fun u hu => absurd hu (Nat.not_lt_zero _)⟩
    · rintro n i W hi ⟨w1, w2⟩ ih
      have e1 : W 1 = V 1 := by rw [w1 1 (by decide), hT 1 (by decide), d1]
      rw [lp_Ar_begin_40, e1, if_neg (fun z => by have := (le_cnt h.u0 (by omega)).mp z; omega), ib_nI (by omega) (by decide), ck_mk, cI (by omega), nm_mk, nI1]
      refine ih _ ⟨w1.sw (by decide), fun u hu => ?_⟩
      rw [sw_at]
      by_cases e : u = i
      · rw [if_pos e]
      · rw [if_neg e]; exact w2 u (by omega)
    · rintro n W ⟨w1, w2⟩
      have e1 : W 1 = V 1 := by rw [w1 1 (by decide), hT 1 (by decide), d1]
      rw [lp_Ar_begin_40, e1, if_pos ((le_cnt h.u0 (by omega)).mpr (Nat.le_refl _))]
      refine hk W (fun q hq => ?_) ⟨fun u hu => w2 u hu, fun n hn => ?_, fun n hn => ?_, ?_⟩
      · simp at hq
        rw [w1 q (by simp [hq]), hT q (by simp [hq])]
      · rw [w1 35 (by decide), (hc n hn).1]
        unfold askd
        rw [any_range_f (fun y _ => Bool.false_and _), Bool.or_false]
      · rw [w1 36 (by decide), (hc n hn).2]
        unfold givn
        rw [any_range_f (fun y _ => Bool.false_and _)]
        rfl
      · refine ⟨?_, ?_, ?_, ?_, ?_, ?_, ?_⟩
        · rw [w1 3 (by decide), hT 3 (by decide), d3]
        · rw [w1 21 (by decide), hT 21 (by decide), d21]
        · rw [w1 22 (by decide), hT 22 (by decide), d22]
        · rw [w1 23 (by decide), hT 23 (by decide), d23]
        · rw [w1 24 (by decide), hT 24 (by decide), d24]
        · rw [w1 12 (by decide), hT 12 (by decide), d12]
        · exact e1
  unfold f_Ar_begin
  obtain ⟨K, hK⟩ : ∃ K : Sto → RT, (fun V5 => lp_Ar_begin_40 (fun V7 => lp_Ar_begin_69 (fun V9 => some (0, V9)) FU 0 V7) FU 0 V5) = K := ⟨_, rfl⟩
  rw [hK]
  have hk : ∀ T : Sto, Only [35, 36] S T → (∀ n, n < 200 → T 35 n = b2 (decide (V 0 11 = nI n)) ∧ T 36 n = 0) → ∃ W, K T = some (0, W) ∧ Only [13, 35, 36] S W ∧ CI V (A0 V) W := by
    rw [← hK]; exact l2
  refine forK (L := lp_Ar_begin_2 (V 0 11) K) (N := 200) (Inv := fun i W => Only [35, 36] S W ∧ ∀ n, n < i → W 35 n = b2 (decide (V 0 11 = nI n)) ∧ W 36 n = 0) (Q := fun r => ∃ W, r = some (0, W) ∧ Only [13, 35, 36] S W ∧ CI V (A0 V) W) (by omega) ?_ ?_ 0 S (Nat.zero_le _) ⟨Only.refl, fun u hu => absurd hu (Nat.not_lt_zero _)⟩
  · rintro n i W hi ⟨w1, w2⟩ ih
    rw [lp_Ar_begin_2, if_neg (fun z => by have := (nI_le_iff (a := 200) (by omega) (by omega)).mp z; omega), nI1, ib_nI (by omega) (by decide), cI (by omega)]
    simp only [nm_mk, ck_mk]
    by_cases c : nI i = V 0 11
    · rw [if_pos c]
      refine ih _ ⟨(w1.sw (by decide)).sw (by decide), fun u hu => ?_⟩
      rw [sw_at, sw_ne (show (35 : Nat) ≠ 36 by decide), sw_at, sw_ne (show (36 : Nat) ≠ 35 by decide)]
      by_cases e : u = i
      · rw [if_pos e, if_pos e, e, decide_eq_true c.symm]; exact ⟨rfl, rfl⟩
      · rw [if_neg e, if_neg e]; exact w2 u (by omega)
    · rw [if_neg c]
      refine ih _ ⟨(w1.sw (by decide)).sw (by decide), fun u hu => ?_⟩
      rw [sw_at, sw_ne (show (35 : Nat) ≠ 36 by decide), sw_at, sw_ne (show (36 : Nat) ≠ 35 by decide)]
      by_cases e : u = i
      · rw [if_pos e, if_pos e, e, decide_eq_false (fun z => c z.symm)]; exact ⟨rfl, rfl⟩
      · rw [if_neg e, if_neg e]; exact w2 u (by omega)
  · rintro n W ⟨w1, w2⟩
    rw [lp_Ar_begin_2, if_pos (show (200 : Int32) ≤ nI 200 from (nI_le_iff (a := 200) (by omega) (by omega)).mpr (Nat.le_refl _))]
    exact hk W w1 w2
theorem brg_none {V : Sto} {a : Nat} {A : Nat → Bool} (h : fstU V A a = none) (n : Nat) : brg V a n A = A := by
  cases n with
  | zero => rfl
  | succ n => simp only [brg, h]
theorem brg_some {V : Sto} {a u : Nat} {A : Nat → Bool} (h : fstU V A a = some u) (n : Nat) : brg V a (n + 1) A = brg V a n (addU A u) := by simp only [brg, h]
/-- one archive -/
theorem through_eq {V S : Sto} (h : WF V) {A : Nat → Bool} (hS : CI V A S) {a : Nat} (ha : a < 4) {x1 : Int32} {k : Int32 → Sto → RT} {Q : RT → Prop} (hk : ∀ W, CI V (brg V a 24 A) W → Only [13, 35, 36] S W → Q (k (if came V A a = true then 1 else x1) W)) : Q (lp_Ar_goThroughArchives_11 (nI a) k FU x1 0 S) := by
  have hu1 := h.u1
  have key := forK (σ := Int32 × Sto) (L := fun n i T => lp_Ar_goThroughArchives_11 (nI a) k n T.1 i T.2) (N := 24) (Inv := fun i T => Only [13, 35, 36] S T.2 ∧ ∃ B, CI V B T.2 ∧ brg V a (24 - i) B = brg V a 24 A ∧ ((i = 0 ∧ T.1 = x1 ∧ B = A) ∨ (came V A a = true ∧ T.1 = 1))) (Q := Q) (by omega) (by
    rintro n i ⟨x, T⟩ hi ⟨h0, B, h1, h2, h3⟩ ih
    simp only at h0 h1 h2 h3
    show Q (lp_Ar_goThroughArchives_11 (nI a) k (n + 1) x (nI i) T)
    rw [lp_Ar_goThroughArchives_11, if_neg (fun z => by have := (nI_le_iff (a := 24) (by omega) (by omega)).mp z; omega), firstNeeded_eq h h1 ha, cl_mk]
    cases hf : fstU V B a with
    | none =>
      rw [if_pos (show optI none = -1 from rfl)]
      rw [brg_none hf] at h2
      have hx : x = if came V A a = true then 1 else x1 := by
        rcases h3 with ⟨-, e1, e2⟩ | ⟨e1, e2⟩
        · subst e2
          unfold came
          rw [hf, e1]
          rfl
        · rw [if_pos e1, e2]
      rw [hx]
      rw [h2] at h1
      exact hk T h1 h0
    | some u =>
      obtain ⟨hu, hA⟩ := fst_lt hf
      rw [if_neg (show ¬ optI (some u) = -1 from m1_ne u (by omega))]
      obtain ⟨X, w1, w2, w3⟩ := admit_eq h h1 hu
      show Q (cl (f_Ar_admit T (nI u)) _)
      rw [w1, cl_mk, nI1]
      refine ih (1, X) ⟨fun q hq => ?_, addU B u, w3, ?_, Or.inr ⟨?_, rfl⟩⟩
      · simp at hq
        show X q = S q
        rw [w2 q hq.1 hq.2.1 hq.2.2]
        exact h0 q (by simp [hq])
      · rw [← h2, show 24 - i = (24 - (i + 1)) + 1 by omega, brg_some hf]
      · rcases h3 with ⟨-, e1, e2⟩ | ⟨e1, e2⟩
        · subst e2
          unfold came
          rw [hf]
          rfl
        · exact e1) (by
    rintro n ⟨x, T⟩ ⟨h0, B, h1, h2, h3⟩
    simp only at h0 h1 h2 h3
    show Q (lp_Ar_goThroughArchives_11 (nI a) k (n + 1) x (nI 24) T)
    rw [lp_Ar_goThroughArchives_11, if_pos (show (24 : Int32) ≤ nI 24 from (nI_le_iff (a := 24) (by omega) (by omega)).mpr (Nat.le_refl _))]
    have h2' : B = brg V a 24 A := h2
    rw [h2'] at h1
    rcases h3 with ⟨e0, -⟩ | ⟨e1, e2⟩
    · cases e0
    · rw [e2]
      have := hk T h1 h0
      rw [if_pos e1] at this
      exact this) 0 (x1, S) (Nat.zero_le _) ⟨Only.refl, A, hS, rfl, Or.inl ⟨rfl, rfl, rfl⟩⟩
  exact key
theorem goThrough_eq {V S : Sto} (h : WF V) {A : Nat → Bool} (hS : CI V A S) : ∃ W, f_Ar_goThroughArchives S = some (b2 (go4 V A).2, W) ∧ Only [13, 35, 36] S W ∧ CI V (go4 V A).1 W := by
  unfold f_Ar_goThroughArchives
  have key := forK (σ := Int32 × Sto) (L := fun n i T => lp_Ar_goThroughArchives_4 (fun y2 V4 => ck (bb y2) <| some (y2, V4)) n T.1 i T.2) (N := 4) (Inv := fun i T => Only [13, 35, 36] S T.2 ∧ CI V (goN V A i).1 T.2 ∧ T.1 = b2 (goN V A i).2) (Q := fun r => ∃ W, r = some (b2 (go4 V A).2, W) ∧ Only [13, 35, 36] S W ∧ CI V (go4 V A).1 W) (by omega) (by
    rintro n i ⟨x, T⟩ hi ⟨h0, h1, h2⟩ ih
    simp only at h0 h1 h2
    show ∃ W, lp_Ar_goThroughArchives_4 (fun y2 V4 => ck (bb y2) <| some (y2, V4)) (n + 1) x (nI i) T = _ ∧ _
    rw [lp_Ar_goThroughArchives_4, if_neg (fun z => by have := (nI_le_iff (a := 4) (by omega) (by omega)).mp z; omega), nI1]
    refine through_eq h h1 hi (Q := fun r => ∃ W, r = some (b2 (go4 V A).2, W) ∧ Only [13, 35, 36] S W ∧ CI V (go4 V A).1 W) (fun W hW hO => ?_)
    refine ih (_, W) ⟨h0.trans hO, hW, ?_⟩
    show (if came V (goN V A i).1 i = true then 1 else x) = b2 ((goN V A i).2 || came V (goN V A i).1 i)
    rw [h2]
    cases came V (goN V A i).1 i <;> cases (goN V A i).2 <;> rfl) (by
    rintro n ⟨x, T⟩ ⟨h0, h1, h2⟩
    simp only at h0 h1 h2
    show ∃ W, lp_Ar_goThroughArchives_4 (fun y2 V4 => ck (bb y2) <| some (y2, V4)) (n + 1) x (nI 4) T = _ ∧ _
    rw [lp_Ar_goThroughArchives_4, if_pos (show (4 : Int32) ≤ nI 4 from (nI_le_iff (a := 4) (by omega) (by omega)).mpr (Nat.le_refl _)), h2, bb_b2, ck_mk]
    exact ⟨T, rfl, h0, h1⟩) 0 (0, S) (Nat.zero_le _) ⟨Only.refl, hS, rfl⟩
  exact key
theorem bringIn_eq {V S : Sto} (h : WF V) (hd : Dat V S) : ∃ W, f_Ar_bringIn S (V 0 11) (V 0 13) = some (0, W) ∧ Only [13, 35, 36] S W ∧ CI V (inS V) W := by
  obtain ⟨T, t1, t2, t3⟩ := begin_eq h hd
  unfold f_Ar_bringIn
  rw [t1]
  simp only [cl_mk, jn_mk]
  have key : ∀ N, N < 30 → ∃ W, lp_Ar_bringIn_19 (nI N) (fun V3 => some (0, V3)) FU 0 T = some (0, W) ∧ Only [13, 35, 36] S W ∧ CI V (rnds V N (A0 V)) W := by
    intro N hN
    refine forK (L := lp_Ar_bringIn_19 (nI N) (fun V3 => some (0, V3))) (N := N) (Inv := fun i W => Only [13, 35, 36] S W ∧ ∃ B, CI V B W ∧ rnds V (N - i) B = rnds V N (A0 V)) (Q := fun r => ∃ W, r = some (0, W) ∧ Only [13, 35, 36] S W ∧ CI V (rnds V N (A0 V)) W) (by omega) ?_ ?_ 0 T (Nat.zero_le _) ⟨t2, A0 V, t3, rfl⟩
    · rintro n i W hi ⟨w1, B, w2, w3⟩ ih
      obtain ⟨X, x1, x2, x3⟩ := goThrough_eq h w2
      rw [lp_Ar_bringIn_19, if_neg (fun z => by have := (nI_le_iff (by omega) (by omega)).mp z; omega), x1, cl_mk, nI1]
      rw [show N - i = (N - (i + 1)) + 1 by omega] at w3
      simp only [rnds] at w3
      cases hc : (go4 V B).2 with
      | true =>
        rw [hc] at w3
        rw [if_neg b2t]
        exact ih X ⟨w1.trans x2, _, x3, w3⟩
      | false =>
        rw [hc] at w3
        simp only at w3
        rw [if_pos b2f]
        rw [w3] at x3
        exact ⟨X, rfl, w1.trans x2, x3⟩
    · rintro n W ⟨w1, B, w2, w3⟩
      rw [lp_Ar_bringIn_19, if_pos ((nI_le_iff (by omega) (by omega)).mpr (Nat.le_refl _))]
      rw [Nat.sub_self] at w3
      have w3' : B = _ := w3
      rw [w3'] at w2
      exact ⟨W, rfl, w1, w2⟩
  unfold inS
  by_cases c : V 0 13 = 0
  · rw [if_pos c, if_pos c]
    exact key 1 (by omega)
  · rw [if_neg c, if_neg c]
    exact key 25 (by omega)
