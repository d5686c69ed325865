/-! The relocations in order: by sections and then by their numbers. -/
def sec (V : Sto) (r : Nat) : Nat := (V 27 r).toNatClampNeg
/-- the relocations of s among the first i -/
def Rl (V : Sto) (i s : Nat) : List Nat := (List.range i).filter (fun r => decide (sec V r = s))
def stt (V : Sto) : Nat → Nat
  | 0 => 0
  | s + 1 => stt V s + (Rl V ((V 4 0).toNatClampNeg) s).length
def ordTo (V : Sto) (n : Nat) : List Nat := (List.range n).flatMap (fun s => Rl V ((V 4 0).toNatClampNeg) s)
def ord (V : Sto) : List Nat := ordTo V ((V 2 0).toNatClampNeg)
theorem Rl_succ (V : Sto) (i s : Nat) : Rl V (i + 1) s = if sec V i = s then Rl V i s ++ [i] else Rl V i s := by
  unfold Rl
  rw [List.range_succ, List.filter_append]
  by_cases h : sec V i = s
  · rw [if_pos h]
    simp [h]
  · rw [if_neg h]
    simp [h]
theorem ordTo_succ (V : Sto) (n : Nat) : ordTo V (n + 1) = ordTo V n ++ Rl V ((V 4 0).toNatClampNeg) n := by
  unfold ordTo
  rw [List.range_succ, List.flatMap_append]
  simp
theorem ordTo_len (V : Sto) : ∀ n, (ordTo V n).length = stt V n
  | 0 => rfl
  | n + 1 => by rw [ordTo_succ, List.length_append, ordTo_len V n]; rfl
theorem Rl_mem {V : Sto} {i s r : Nat} : r ∈ Rl V i s ↔ r < i ∧ sec V r = s := by
  unfold Rl
  rw [List.mem_filter, List.mem_range, decide_eq_true_eq]
theorem cnt_split (V : Sto) (s : Nat) : ∀ l : List Nat, (l.filter (fun r => decide (sec V r < s + 1))).length = (l.filter (fun r => decide (sec V r < s))).length + (l.filter (fun r => decide (sec V r = s))).length
  | [] => rfl
  | a :: l => by
    have ih := cnt_split V s l
    simp only [List.filter_cons]
    by_cases h1 : sec V a < s
    · rw [if_pos (decide_eq_true (show sec V a < s + 1 by omega)), if_pos (decide_eq_true h1), if_neg (by rw [decide_eq_true_eq]; omega)]
      simp only [List.length_cons]
      omega
    · by_cases h2 : sec V a = s
      · rw [if_pos (decide_eq_true (show sec V a < s + 1 by omega)), if_neg (by rw [decide_eq_true_eq]; omega), if_pos (decide_eq_true h2)]
        simp only [List.length_cons]
        omega
      · rw [if_neg (by rw [decide_eq_true_eq]; omega), if_neg (by rw [decide_eq_true_eq]; omega), if_neg (by rw [decide_eq_true_eq]; exact h2)]
        exact ih
theorem stt_cnt (V : Sto) : ∀ n, stt V n = ((List.range ((V 4 0).toNatClampNeg)).filter (fun r => decide (sec V r < n))).length
  | 0 => by
    rw [List.filter_eq_nil_iff.mpr]
    · rfl
    · intro a _
      simp
  | n + 1 => by
    rw [cnt_split V n, ← stt_cnt V n]
    rfl
theorem stt_mono (V : Sto) {a b : Nat} (h : a ≤ b) : stt V a ≤ stt V b := by
  induction b with
  | zero =>
    have : a = 0 := by omega
    rw [this]
    exact Nat.le_refl _
  | succ b ih =>
    by_cases e : a = b + 1
    · rw [e]
      exact Nat.le_refl _
    · have := ih (by omega)
      show _ ≤ stt V b + _
      omega
theorem stt_le (V : Sto) (n : Nat) : stt V n ≤ (V 4 0).toNatClampNeg := by
  rw [stt_cnt]
  have := List.length_filter_le (fun r => decide (sec V r < n)) (List.range ((V 4 0).toNatClampNeg))
  rw [List.length_range] at this
  exact this
theorem stt_all {V : Sto} (h : WF V) : stt V ((V 2 0).toNatClampNeg) = (V 4 0).toNatClampNeg := by
  rw [stt_cnt, List.filter_eq_self.mpr, List.length_range]
  intro r hr
  rw [decide_eq_true_eq]
  exact ib_lt (h.rs r (List.mem_range.mp hr)).1
theorem Rl_len_le (V : Sto) {i : Nat} (s : Nat) (hi : i ≤ (V 4 0).toNatClampNeg) : (Rl V i s).length ≤ (Rl V ((V 4 0).toNatClampNeg) s).length := by
  induction h : (V 4 0).toNatClampNeg - i generalizing i with
  | zero =>
    have : i = (V 4 0).toNatClampNeg := by omega
    rw [this]
    exact Nat.le_refl _
  | succ d ih =>
    have := ih (i := i + 1) (by omega) (by omega)
    rw [Rl_succ] at this
    by_cases e : sec V i = s
    · rw [if_pos e, List.length_append] at this
      simp only [List.length_singleton] at this
      omega
    · rw [if_neg e] at this
      exact this
theorem Rl_len_lt (V : Sto) {i : Nat} (hi : i < (V 4 0).toNatClampNeg) : (Rl V i (sec V i)).length < (Rl V ((V 4 0).toNatClampNeg) (sec V i)).length := by
  have := Rl_len_le V (sec V i) (show i + 1 ≤ (V 4 0).toNatClampNeg by omega)
  rw [Rl_succ, if_pos rfl, List.length_append] at this
  simp only [List.length_singleton] at this
  omega
/-- what the step leaves -/
def OrdP (V W : Sto) : Prop :=
  (Only [32, 33, 34] V W) ∧
  (∀ s, s ≤ (V 2 0).toNatClampNeg → W 33 s = nI (stt V s)) ∧
  (∀ s, s < (V 2 0).toNatClampNeg → ∀ k, k < (Rl V ((V 4 0).toNatClampNeg) s).length → W 32 (stt V s + k) = nI ((Rl V ((V 4 0).toNatClampNeg) s).getD k 0))
theorem OrdP.o {V W : Sto} (h : OrdP V W) : Only [32, 33, 34] V W := h.1
theorem OrdP.st {V W : Sto} (h : OrdP V W) : ∀ s, s ≤ (V 2 0).toNatClampNeg → W 33 s = nI (stt V s) := h.2.1
theorem OrdP.pk {V W : Sto} (h : OrdP V W) : ∀ s, s < (V 2 0).toNatClampNeg → ∀ k, k < (Rl V ((V 4 0).toNatClampNeg) s).length → W 32 (stt V s + k) = nI ((Rl V ((V 4 0).toNatClampNeg) s).getD k 0) := h.2.2
theorem fill33_eq (V : Sto) : ∃ W, f_fill33 V 0 = some (0, W) ∧ (∀ q, q ≠ 33 → W q = V q) ∧ ∀ j, j < 97 → W 33 j = 0 := by
  unfold f_fill33
  have key := forQ (L := lp_fill33_5 0 (nI 97) (fun V2 => some (0, V2))) (N := 97) (Inv := fun i S => (∀ q, q ≠ 33 → S q = V q) ∧ ∀ j, j < i → S 33 j = 0) (Q := fun r => ∃ W, r = some (0, W) ∧ (∀ q, q ≠ 33 → W q = V q) ∧ ∀ j, j < 97 → W 33 j = 0) (by decide) (by
    rintro m i S hi ⟨h1, h2⟩
    rw [lp_fill33_5, if_neg (nI_ge hi (by decide)), ib_nI hi (by decide), ck_mk, nm_mk, cI (by omega), nI1]
    refine Or.inr ⟨_, rfl, fun q hq => by rw [sw_ne hq]; exact h1 q hq, fun j hj => ?_⟩
    rw [sw_at]
    by_cases e : j = i
    · rw [if_pos e]
    · rw [if_neg e]; exact h2 j (by omega)) (by
    rintro m S ⟨h1, h2⟩
    rw [lp_fill33_5, if_pos (nI_le (Nat.le_refl _) (by decide))]
    exact ⟨S, rfl, h1, h2⟩) 0 V (Nat.zero_le _) ⟨fun _ _ => rfl, fun j hj => absurd hj (Nat.not_lt_zero _)⟩
  exact key
theorem order_eq {V : Sto} (h : WF V) : ∃ W, f_Re_putInOrder V (V 2 0) = some (0, W) ∧ OrdP V W := by
  have hr1 := h.r1
  have hs1 := h.s1
  obtain ⟨W1, w1, w2, w3⟩ := fill33_eq V
  have hsec : ∀ r, r < (V 4 0).toNatClampNeg → ib (V 27 r) 96 = true ∧ sec V r < (V 2 0).toNatClampNeg := fun r hr => ⟨ib_mono (h.rs r hr).1 hs1, ib_lt (h.rs r hr).1⟩
  have hsecE : ∀ r, r < (V 4 0).toNatClampNeg → V 27 r = nI (sec V r) := fun r hr => ib_eq (h.rs r hr).1
  unfold f_Re_putInOrder
  rw [w1, cl_mk]
  -- the counts
  have key := forQ (L := lp_Re_putInOrder_10 (fun V3 => lp_Re_putInOrder_43 (V 2 0) (fun V6 => lp_Re_putInOrder_85 (fun V9 => some (0, V9)) FU 0 V6) FU 0 V3)) (N := (V 4 0).toNatClampNeg) (Inv := fun i S => Only [33] V S ∧ S 33 0 = 0 ∧ ∀ s, s < 96 → S 33 (s + 1) = nI (Rl V i s).length) (Q := fun r => ∃ W, r = some (0, W) ∧ OrdP V W) (by omega) (by
    rintro m i S hi ⟨h1, h2, h3⟩
    have e4 : S 4 = V 4 := h1 4 (by decide)
    have e27 : S 27 = V 27 := h1 27 (by decide)
    have hlt := (hsec i hi).2
    have hix : V 27 i + 1 = nI (sec V i + 1) := by rw [hsecE i hi, nI1]
    rw [lp_Re_putInOrder_10, e4, if_neg (fun z => by have := (le_cnt h.r0 (by omega)).mp z; omega), ib_nI (by omega) (by decide), ck_mk, cI (by omega), e27, hix, ib_nI (by omega) (by decide), ck_mk, ck_mk, nm_mk, cI (by omega), nI1]
    refine Or.inr ⟨_, rfl, h1.sw (by decide), ?_, fun s hs => ?_⟩
    · rw [sw_at, if_neg (by omega)]; exact h2
    · rw [sw_at, Rl_succ, h3 s hs, h3 _ (by omega)]
      by_cases e : sec V i = s
      · rw [if_pos (by omega), if_pos e, List.length_append, e, nI1]
        rfl
      · rw [if_neg (by omega), if_neg e]) (by
    rintro m S ⟨h1, h2, h3⟩
    have e4 : S 4 = V 4 := h1 4 (by decide)
    rw [lp_Re_putInOrder_10, e4, if_pos ((le_cnt h.r0 (by omega)).mpr (Nat.le_refl _))]
    -- the sums
    have key2 := forQ (L := lp_Re_putInOrder_43 (V 2 0) (fun V6 => lp_Re_putInOrder_85 (fun V9 => some (0, V9)) FU 0 V6)) (N := (V 2 0).toNatClampNeg) (Inv := fun i T => Only [33, 34] V T ∧ (∀ s, s ≤ i → T 33 s = nI (stt V s)) ∧ (∀ s, i ≤ s → s < 96 → T 33 (s + 1) = nI (Rl V ((V 4 0).toNatClampNeg) s).length) ∧ ∀ s, s < i → T 34 s = nI (stt V s)) (Q := fun r => ∃ W, r = some (0, W) ∧ OrdP V W) (by omega) (by
      rintro m i T hi ⟨t1, t2, t3, t4⟩
      have hst := stt_le V (i + 1)
      have hsum : T 33 (i + 1) + T 33 i = nI (stt V (i + 1)) := by
        rw [t3 i (Nat.le_refl _) (by omega), t2 i (Nat.le_refl _), nI_add]
        show nI _ = nI (stt V i + _)
        rw [Nat.add_comm]
      rw [lp_Re_putInOrder_43, if_neg (fun z => by have := (le_cnt h.s0 (by omega)).mp z; omega), nI1, ib_nI (by omega) (by decide), ck_mk, ib_nI (by omega) (by decide), ck_mk, ck_mk, nm_mk, ck_mk, ib_nI (by omega) (by decide), ck_mk, nm_mk, cI (by omega), cI (by omega), hsum]
      refine Or.inr ⟨_, rfl, (t1.sw (by decide)).sw (by decide), fun s hs => ?_, fun s s1 s2 => ?_, fun s hs => ?_⟩
      · rw [sw_ne (by decide), sw_at]
        by_cases e : s = i + 1
        · rw [if_pos e, e]
        · rw [if_neg e]; exact t2 s (by omega)
      · rw [sw_ne (by decide), sw_at, if_neg (by omega)]; exact t3 s (by omega) s2
      · rw [sw_at]
        by_cases e : s = i
        · rw [if_pos e, sw_at, if_neg (by omega), e]; exact t2 i (Nat.le_refl _)
        · rw [if_neg e, sw_ne (by decide)]; exact t4 s (by omega)) (by
      rintro m T ⟨t1, t2, t3, t4⟩
      rw [lp_Re_putInOrder_43, if_pos ((le_cnt h.s0 (by omega)).mpr (Nat.le_refl _))]
      -- the places
      have key3 := forQ (L := lp_Re_putInOrder_85 (fun V9 => some (0, V9))) (N := (V 4 0).toNatClampNeg) (Inv := fun i U => Only [32, 33, 34] V U ∧ (∀ s, s ≤ (V 2 0).toNatClampNeg → U 33 s = nI (stt V s)) ∧ (∀ s, s < (V 2 0).toNatClampNeg → U 34 s = nI (stt V s + (Rl V i s).length)) ∧ ∀ s, s < (V 2 0).toNatClampNeg → ∀ k, k < (Rl V i s).length → U 32 (stt V s + k) = nI ((Rl V i s).getD k 0)) (Q := fun r => ∃ W, r = some (0, W) ∧ OrdP V W) (by omega) (by
        rintro m i U hi ⟨u1, u2, u3, u4⟩
        have e4 : U 4 = V 4 := u1 4 (by decide)
        have e27 : U 27 = V 27 := u1 27 (by decide)
        obtain ⟨hb, hlt⟩ := hsec i hi
        have hE := hsecE i hi
        have hlen := Rl_len_lt V hi
        have hnx : stt V (sec V i + 1) ≤ (V 4 0).toNatClampNeg := stt_le V _
        have hnx2 : stt V (sec V i + 1) = stt V (sec V i) + (Rl V ((V 4 0).toNatClampNeg) (sec V i)).length := rfl
        have h34 := u3 (sec V i) hlt
        have hct : (V 27 i).toNatClampNeg = sec V i := rfl
        rw [lp_Re_putInOrder_85, e4, if_neg (fun z => by have := (le_cnt h.r0 (by omega)).mp z; omega), ib_nI (by omega) (by decide), ck_mk, cI (by omega), e27, hb, ck_mk, hct, h34, ib_nI (by omega) (by decide), ck_mk, nm_mk, ck_mk, ck_mk, nm_mk, cI (by omega), nI1, sw_ne (show (34 : Nat) ≠ 32 by decide), h34, nI1]
        refine Or.inr ⟨_, rfl, (u1.sw (by decide)).sw (by decide), fun s hs => ?_, fun s hs => ?_, fun s hs k hk => ?_⟩
        · rw [sw_ne (by decide), sw_ne (by decide)]; exact u2 s hs
        · rw [sw_at, Rl_succ]
          by_cases e : s = sec V i
          · rw [if_pos e, if_pos e.symm, List.length_append, e]
            rfl
          · rw [if_neg e, if_neg (fun z => e z.symm), sw_ne (by decide)]; exact u3 s hs
        · rw [sw_ne (by decide), sw_at]
          rw [Rl_succ] at hk ⊢
          by_cases e : sec V i = s
          · subst e
            rw [if_pos rfl] at hk ⊢
            rw [List.length_append] at hk
            simp only [List.length_singleton] at hk
            by_cases ek : k = (Rl V i (sec V i)).length
            · rw [if_pos (by omega), ek, List.getD_eq_getElem?_getD, List.getElem?_append_right (Nat.le_refl _), Nat.sub_self]
              rfl
            · rw [if_neg (by omega), List.getD_eq_getElem?_getD, List.getElem?_append_left (by omega), ← List.getD_eq_getElem?_getD]
              exact u4 _ hs k (by omega)
          · rw [if_neg e] at hk ⊢
            have hl2 := Rl_len_le V s (show i ≤ (V 4 0).toNatClampNeg by omega)
            have hne : ¬ stt V s + k = stt V (sec V i) + (Rl V i (sec V i)).length := by
              rcases Nat.lt_or_gt_of_ne e with c | c
              · have := stt_mono V (show sec V i + 1 ≤ s by omega)
                omega
              · have := stt_mono V (show s + 1 ≤ sec V i by omega)
                have e2 : stt V (s + 1) = stt V s + (Rl V ((V 4 0).toNatClampNeg) s).length := rfl
                omega
            rw [if_neg hne]
            exact u4 s hs k hk) (by
        rintro m U ⟨u1, u2, u3, u4⟩
        have e4 : U 4 = V 4 := u1 4 (by decide)
        rw [lp_Re_putInOrder_85, e4, if_pos ((le_cnt h.r0 (by omega)).mpr (Nat.le_refl _))]
        exact ⟨U, rfl, u1, u2, u4⟩) 0 T (Nat.zero_le _) ⟨t1.mono (by decide), t2, fun s hs => t4 s hs, fun s hs k hk => absurd hk (Nat.not_lt_zero _)⟩
      exact key3) 0 S (Nat.zero_le _) ⟨h1.mono (by decide), fun s hs => by
        have : s = 0 := by omega
        rw [this, h2]
        rfl, fun s _ hs => h3 s hs, fun s hs => absurd hs (Nat.not_lt_zero _)⟩
    exact key2) 0 W1 (Nat.zero_le _) ⟨fun q hq => w2 q (fun e => hq (by rw [e]; decide)), w3 0 (by decide), fun s hs => by rw [w3 _ (by omega)]; rfl⟩
  exact key
