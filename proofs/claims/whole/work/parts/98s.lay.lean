/-! A layout: its numbers, and the class's. -/
def t1 (V F : Sto) (b : Nat) : Nat := pk V F 0 b ((V 2 0).toNatClampNeg)
def t2 (V F : Sto) (b c : Nat) : Nat := upN (t1 V F b) 4 + c * 8
def t3 (V F : Sto) (b c : Nat) : Nat := pk V F 1 (t2 V F b c) ((V 2 0).toNatClampNeg)
def t4 (V F : Sto) (b c : Nat) : Nat := pk V F 2 (t3 V F b c) ((V 2 0).toNatClampNeg)
def cm (F : Sto) (v : Nat) : Nat → Nat
  | 0 => v
  | n + 1 => if F 44 n = 0 then cm F v n else upN (cm F v n) 4 + (F 39 n).toNatClampNeg
def beg (V F : Sto) (b c : Nat) (k : Int32) : Nat := if k = 0 then b else if k = 1 then t2 V F b c else t3 V F b c
def adF (V F : Sto) (b c s : Nat) : Nat := adk V F (V 16 (ldr F s)) (beg V F b c (V 16 (ldr F s))) (ldr F s)
abbrev CZ (F : Sto) : Prop := ∀ n, n < 200 → F 39 n = nI (F 39 n).toNatClampNeg ∧ (F 39 n).toNatClampNeg ≤ 8192 ∧ (F 39 n).toNatClampNeg % 4 = 0
theorem cm_le {F : Sto} (hz : CZ F) (v : Nat) : ∀ n, n ≤ 200 → cm F v n ≤ v + 8196 * n := by
  intro n
  induction n with
  | zero => intro _; exact Nat.le_refl _
  | succ n ih =>
    intro hn
    have := ih (by omega)
    show (if F 44 n = 0 then cm F v n else upN (cm F v n) 4 + (F 39 n).toNatClampNeg) ≤ _
    by_cases c : F 44 n = 0
    · rw [if_pos c]; omega
    · rw [if_neg c]
      have h1 := upN_le (v := cm F v n) (a := 4)
      have h2 := (hz n (by omega)).2.1
      omega
theorem cm_mono {F : Sto} (v : Nat) : ∀ n m, n ≤ m → cm F v n ≤ cm F v m := by
  intro n m
  induction m with
  | zero => intro hn; rw [show n = 0 by omega]; exact Nat.le_refl _
  | succ m ih =>
    intro hn
    by_cases e : n = m + 1
    · rw [e]; exact Nat.le_refl _
    · refine Nat.le_trans (ih (by omega)) ?_
      show _ ≤ (if F 44 m = 0 then cm F v m else upN (cm F v m) 4 + (F 39 m).toNatClampNeg)
      by_cases c : F 44 m = 0
      · rw [if_pos c]; exact Nat.le_refl _
      · rw [if_neg c]
        have := upN_ge (v := cm F v m) (a := 4) (by decide)
        omega
theorem t_bd {V F : Sto} (h : WF V) {b c : Nat} (hb : b ≤ 1048576) (hc : c ≤ 32) : t1 V F b ≤ 3000000 ∧ t2 V F b c ≤ 3000000 ∧ t3 V F b c ≤ 5000000 ∧ t4 V F b c ≤ 7000000 := by
  have hs1 := h.s1
  have a1 := pk_ub (F := F) h 0 b ((V 2 0).toNatClampNeg) (Nat.le_refl _)
  have a2 := upN_le (v := t1 V F b) (a := 4)
  have a3 := pk_ub (F := F) h 1 (t2 V F b c) ((V 2 0).toNatClampNeg) (Nat.le_refl _)
  have a4 := pk_ub (F := F) h 2 (t3 V F b c) ((V 2 0).toNatClampNeg) (Nat.le_refl _)
  have e1 : t1 V F b = pk V F 0 b ((V 2 0).toNatClampNeg) := rfl
  have e2 : t2 V F b c = upN (t1 V F b) 4 + c * 8 := rfl
  have e3 : t3 V F b c = pk V F 1 (t2 V F b c) ((V 2 0).toNatClampNeg) := rfl
  have e4 : t4 V F b c = pk V F 2 (t3 V F b c) ((V 2 0).toNatClampNeg) := rfl
  omega
def LY (V F : Sto) (b c : Nat) (Y : Sto) : Prop :=
  (Y 9 5 = nI (cm F (t4 V F b c) 200)) ∧
  (Y 9 7 = nI (upN (t1 V F b) 4)) ∧
  (∀ s, s < (V 2 0).toNatClampNeg → ¬ F 43 s = 0 → Y 48 s = nI (adF V F b c s)) ∧
  (∀ n, n < 200 → ¬ F 44 n = 0 → Y 49 n = nI (upN (cm F (t4 V F b c) n) 4)) ∧
  (Y 9 4 = nI b)
theorem LY.e {V F : Sto} {b c : Nat} {Y : Sto} (h : LY V F b c Y) : Y 9 5 = nI (cm F (t4 V F b c) 200) := h.1
theorem LY.i {V F : Sto} {b c : Nat} {Y : Sto} (h : LY V F b c Y) : Y 9 7 = nI (upN (t1 V F b) 4) := h.2.1
theorem LY.a {V F : Sto} {b c : Nat} {Y : Sto} (h : LY V F b c Y) : ∀ s, s < (V 2 0).toNatClampNeg → ¬ F 43 s = 0 → Y 48 s = nI (adF V F b c s) := h.2.2.1
theorem LY.n {V F : Sto} {b c : Nat} {Y : Sto} (h : LY V F b c Y) : ∀ n, n < 200 → ¬ F 44 n = 0 → Y 49 n = nI (upN (cm F (t4 V F b c) n) 4) := h.2.2.2.1
theorem LY.b {V F : Sto} {b c : Nat} {Y : Sto} (h : LY V F b c Y) : Y 9 4 = nI b := h.2.2.2.2
theorem ib3c {x : Int32} (h : ib x 3 = true) : x = 0 ∨ x = 1 ∨ x = 2 := by
  have h1 := ib_eq h
  have h2 := ib_lt h
  have h3 : x.toNatClampNeg = 0 ∨ x.toNatClampNeg = 1 ∨ x.toNatClampNeg = 2 := by omega
  rcases h3 with e | e | e <;> rw [e] at h1 <;> simp [h1, nI]
theorem FD.l16 {V S F : Sto} (hF : FD V S F) {s : Nat} (hs : s < (V 2 0).toNatClampNeg) : V 16 (ldr F s) = V 16 s ∧ ldr F s < (V 2 0).toNatClampNeg := by
  have hle := hF.le s hs
  have hld := hF.ld s hs
  have hl : ldr F s ≤ s := hle
  refine ⟨?_, by omega⟩
  rcases hF.b (ldr F s) s (by omega) hs hld with e | ⟨-, g2, g3, -⟩
  · rw [e]
  · rw [(mf_text g2).1, (mf_text g3).1]
theorem lay_eq {V S F X : Sto} (h : WF V) (hd : Dat V X) (hF : FD V S F) (hS : F 43 = S 43) (hX : Only LC F X) (hz : CZ F) {b c : Nat} (hb : b ≤ 1048576) (hc : c ≤ 32) (h4 : X 9 4 = nI b) : ∃ Y, f_La_lay X (nI c) = some (0, Y) ∧ Only [9, 48, 49] X Y ∧ Y 9 6 = X 9 6 + 1 ∧ LY V F b c Y ∧ (∀ s, s < (V 2 0).toNatClampNeg → F 43 s = 0 → Y 48 s = X 48 s) ∧ ∀ n, n < 200 → F 44 n = 0 → Y 49 n = X 49 n := by
  have hs1 := h.s1
  obtain ⟨b1, b2', b3, b4⟩ := t_bd (F := F) h hb hc
  have e43 := hX 43 (by decide)
  have e46 := hX 46 (by decide)
  unfold f_La_lay
  rw [nm_mk, nm_mk]
  obtain ⟨X1, hX1⟩ : ∃ X1, sw (sw X 9 6 (X 9 6 + 1)) 9 5 (sw X 9 6 (X 9 6 + 1) 9 4) = X1 := ⟨_, rfl⟩
  rw [hX1]
  have o1 : Only [9, 48, 49] X X1 := by rw [← hX1]; exact (Only.refl.sw (by decide)).sw (by decide)
  have x5 : X1 9 5 = nI b := by rw [← hX1, sw_at, if_pos rfl, sw_at, if_neg (by decide), h4]
  have xj : ∀ j, j ≠ 5 → j ≠ 6 → X1 9 j = X 9 j := fun j h1 h2 => by rw [← hX1, sw_at, if_neg h1, sw_at, if_neg h2]
  have x6 : X1 9 6 = X 9 6 + 1 := by rw [← hX1, sw_at, if_neg (by decide), sw_at, if_pos rfl]
  have x48 : X1 48 = X 48 := by rw [← hX1, sw_ne (by decide), sw_ne (by decide)]
  have x49 : X1 49 = X 49 := by rw [← hX1, sw_ne (by decide), sw_ne (by decide)]
  obtain ⟨X2, p1, o2, q2, r2, s2, u2⟩ := laySec_eq (k := 0) (v := b) h (hd.only o1 (by decide)) hF (by rw [o1 43 (by decide), e43]) (by rw [o1 46 (by decide), e46]) hS (by omega) x5
  have hp := put_eq (T := X2) (v := t1 V F b) (z := c * 8) (e := 2) r2 (by omega) (by omega)
  have e8 : nI c * 8 = nI (c * 8) := nI_mul c 8
  have e4 : nI (2 ^ 2) = 4 := rfl
  rw [e4] at hp
  rw [p1, cl_mk, e8, hp, cl_mk, nm_mk]
  obtain ⟨X3, hX3⟩ : ∃ X3, sw (sw X2 9 5 (nI (upN (t1 V F b) (2 ^ 2) + c * 8))) 9 7 (nI (upN (t1 V F b) (2 ^ 2))) = X3 := ⟨_, rfl⟩
  rw [hX3]
  have o3 : Only [9, 48, 49] X X3 := by rw [← hX3]; exact (((o1.trans (o2.mono (by decide))).sw (by decide)).sw (by decide))
  have y5 : X3 9 5 = nI (t2 V F b c) := by rw [← hX3, sw_at, if_neg (by decide), sw_at, if_pos rfl]; rfl
  have y7 : X3 9 7 = nI (upN (t1 V F b) 4) := by rw [← hX3, sw_at, if_pos rfl]
  have yj : ∀ j, j ≠ 5 → j ≠ 7 → X3 9 j = X2 9 j := fun j h1 h2 => by rw [← hX3, sw_at, if_neg h2, sw_at, if_neg h1]
  have y48 : X3 48 = X2 48 := by rw [← hX3, sw_ne (by decide), sw_ne (by decide)]
  obtain ⟨X4, p4, o4, q4, r4, s4, u4⟩ := laySec_eq (k := 1) (v := t2 V F b c) h (hd.only o3 (by decide)) hF (by rw [o3 43 (by decide), e43]) (by rw [o3 46 (by decide), e46]) hS (by omega) y5
  have o4' : Only [9, 48, 49] X X4 := o3.trans (o4.mono (by decide))
  obtain ⟨X5, p5, o5, q5, r5, s5, u5⟩ := laySec_eq (k := 2) (v := t3 V F b c) h (hd.only o4' (by decide)) hF (by rw [o4' 43 (by decide), e43]) (by rw [o4' 46 (by decide), e46]) hS (by omega) r4
  have o5' : Only [9, 48, 49] X X5 := o4'.trans (o5.mono (by decide))
  rw [p4, cl_mk, p5, cl_mk]
  have g44 := hX 44 (by decide)
  have g39 := hX 39 (by decide)
  refine forK (L := lp_La_lay_48 (fun V10 => some (0, V10))) (N := 200) (Inv := fun i Y => Only [9, 49] X5 Y ∧ (∀ j, j ≠ 5 → Y 9 j = X5 9 j) ∧ Y 9 5 = nI (cm F (t4 V F b c) i) ∧ (∀ n, n < i → ¬ F 44 n = 0 → Y 49 n = nI (upN (cm F (t4 V F b c) n) 4)) ∧ ∀ n, F 44 n = 0 → Y 49 n = X5 49 n) (Q := fun r => ∃ Y, r = some (0, Y) ∧ Only [9, 48, 49] X Y ∧ Y 9 6 = X 9 6 + 1 ∧ LY V F b c Y ∧ (∀ s, s < (V 2 0).toNatClampNeg → F 43 s = 0 → Y 48 s = X 48 s) ∧ ∀ n, n < 200 → F 44 n = 0 → Y 49 n = X 49 n) (by omega) ?_ ?_ 0 X5 (Nat.zero_le _) ⟨Only.refl, fun _ _ => rfl, r5, fun n hn => absurd hn (Nat.not_lt_zero _), fun _ _ => rfl⟩
  · rintro n i Y hi ⟨w1, w2, w3, w4, w5⟩ ih
    have hcl := cm_le hz (t4 V F b c) i (by omega)
    have e44 : Y 44 = F 44 := by rw [w1 44 (by decide), o5' 44 (by decide), g44]
    have e39 : Y 39 = F 39 := by rw [w1 39 (by decide), o5' 39 (by decide), g39]
    have ec : cm F (t4 V F b c) (i + 1) = if F 44 i = 0 then cm F (t4 V F b c) i else upN (cm F (t4 V F b c) i) 4 + (F 39 i).toNatClampNeg := rfl
    rw [lp_La_lay_48, if_neg (show ¬ (200 : Int32) ≤ nI i from nI_ge (b := 200) hi (by decide)), ib_nI hi (by decide), cI (by omega), e44, e39, nI1]
    simp only [ck_mk, nm_mk]
    by_cases c0 : F 44 i = 0
    · rw [if_pos c0]
      refine ih Y ⟨w1, w2, by rw [ec, if_pos c0]; exact w3, fun n hn hz2 => ?_, w5⟩
      by_cases e : n = i
      · subst e; exact absurd c0 hz2
      · exact w4 n (by omega) hz2
    · rw [if_neg c0]
      have hp2 := put_eq (T := Y) (v := cm F (t4 V F b c) i) (z := (F 39 i).toNatClampNeg) (e := 2) w3 (by omega) (by omega)
      rw [← (hz i hi).1, e4] at hp2
      rw [hp2, cl_mk]
      refine ih _ ⟨(w1.sw (by decide)).sw (by decide), fun j hj => ?_, ?_, fun n hn hz2 => ?_, fun n hz2 => ?_⟩
      · rw [sw_ne (by decide), sw_at, if_neg hj]; exact w2 j hj
      · rw [sw_ne (by decide), sw_at, if_pos rfl, ec, if_neg c0]
      · rw [sw_at]
        by_cases e : n = i
        · rw [if_pos e, e]
        · rw [if_neg e, sw_ne (by decide)]; exact w4 n (by omega) hz2
      · rw [sw_at, if_neg (fun e => by subst e; exact c0 hz2), sw_ne (by decide)]; exact w5 n hz2
  · rintro n Y ⟨w1, w2, w3, w4, w5⟩
    rw [lp_La_lay_48, if_pos (show (200 : Int32) ≤ nI 200 from nI_le (Nat.le_refl _) (by decide))]
    have e49 : X5 49 = X 49 := by rw [o5 49 (by decide), o4 49 (by decide), ← hX3, sw_ne (by decide), sw_ne (by decide), o2 49 (by decide), x49]
    have e48 : Y 48 = X5 48 := w1 48 (by decide)
    refine ⟨Y, rfl, o5'.trans (w1.mono (by decide)), ?_, ⟨w3, ?_, fun s hs hr => ?_, w4, ?_⟩, fun s hs hr => ?_, fun n hn hr => by rw [w5 n hr, e49]⟩
    · rw [w2 6 (by decide), q5 6 (by decide), q4 6 (by decide), yj 6 (by decide) (by decide), q2 6 (by decide), x6]
    · rw [w2 7 (by decide), q5 7 (by decide), q4 7 (by decide), y7]
    · obtain ⟨l1, l2⟩ := hF.l16 hs
      rw [e48]
      unfold adF beg
      rw [l1]
      rcases ib3c (h.sk s hs) with k | k | k
      · rw [u5 s (Or.inr (by rw [k]; decide)), u4 s (Or.inr (by rw [k]; decide)), y48, s2 s hs hr k, k, if_pos rfl]
      · rw [u5 s (Or.inr (by rw [k]; decide)), s4 s hs hr k, k, if_neg (by decide), if_pos rfl]
      · rw [s5 s hs hr k, k, if_neg (by decide), if_neg (by decide)]
    · rw [w2 4 (by decide), q5 4 (by decide), q4 4 (by decide), yj 4 (by decide) (by decide), q2 4 (by decide), xj 4 (by decide) (by decide), h4]
    · rw [e48, u5 s (Or.inl hr), u4 s (Or.inl hr), y48, u2 s (Or.inl hr), x48]
