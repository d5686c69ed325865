/-! Islands: one step of each. -/
theorem loop2 {σ τ ρ ρ' : Type} {L : Nat → σ → ρ} {K : Nat → τ → ρ'} {Inv : Nat → σ → τ → Prop} {Q : ρ → ρ' → Prop} (hstep : ∀ n n' m S T, Inv m S T → (∀ m' S' T', m' < m → Inv m' S' T' → Q (L n S') (K n' T')) → Q (L (n + 1) S) (K (n' + 1) T)) : ∀ m n n' S T, Inv m S T → m < n → m < n' → Q (L n S) (K n' T) := by
  intro m
  induction m using Nat.strongRecOn with
  | ind m ih =>
    intro n n' S T hI hn hn'
    cases n with
    | zero => omega
    | succ n =>
      cases n' with
      | zero => omega
      | succ n' => exact hstep n n' m S T hI (fun m' S' T' hlt hI' => ih m' hlt n n' S' T' hI' (by omega) (by omega))
theorem find_some_r {N t : Nat} {P : Nat → Bool} (ht : t < N) (hp : P t = true) (hm : ∀ j, j < t → P j = false) : (List.range N).find? P = some t := by
  rw [List.find?_eq_some_iff_getElem]
  refine ⟨hp, t, by rw [List.length_range]; exact ht, by simp, fun j hj => ?_⟩
  have := hm j hj
  simp [this]
theorem find_none_r {N : Nat} {P : Nat → Bool} (hm : ∀ j, j < N → P j = false) : (List.range N).find? P = none := by
  rw [List.find?_eq_none]
  intro x hx
  have := hm x (List.mem_range.mp hx)
  simp [this]
def tP (V F X : Sto) (r i : Nat) : Bool := decide (X 50 i = F 40 (dY V r)) && (decide (X 51 i = lm F (dY V r)) && decide (X 52 i = F 42 (dY V r) + V 31 r))
def fI (V F X : Sto) (c r : Nat) : Option Nat := (List.range c).find? (tP V F X r)
def gcnt (V X : Sto) : Nat := (List.range ((V 4 0).toNatClampNeg)).countP (fun r => !decide (X 53 r = -1))
def IL (V F X Y : Sto) (c : Nat) : Prop :=
  (c ≤ 32) ∧
  (X 10 5 = nI c) ∧
  (Y 0 47 = nI c) ∧
  (∀ r, r < (V 4 0).toNatClampNeg → Y 30 r = X 53 r ∧ (X 53 r = -1 ∨ ∃ i, i < c ∧ X 53 r = nI i)) ∧
  (∀ i, i < c → ∃ r, r < (V 4 0).toNatClampNeg ∧ Y 31 i = nI r ∧ ¬ F 43 (sec V r) = 0 ∧ X 50 i = F 40 (dY V r) ∧ X 51 i = lm F (dY V r) ∧ X 52 i = F 42 (dY V r) + V 31 r) ∧
  (X 10 6 = nI (gcnt V X))
theorem IL.hc {V F X Y : Sto} {c : Nat} (h : IL V F X Y c) : c ≤ 32 := h.1
theorem IL.xc {V F X Y : Sto} {c : Nat} (h : IL V F X Y c) : X 10 5 = nI c := h.2.1
theorem IL.yc {V F X Y : Sto} {c : Nat} (h : IL V F X Y c) : Y 0 47 = nI c := h.2.2.1
theorem IL.is {V F X Y : Sto} {c : Nat} (h : IL V F X Y c) : ∀ r, r < (V 4 0).toNatClampNeg → Y 30 r = X 53 r ∧ (X 53 r = -1 ∨ ∃ i, i < c ∧ X 53 r = nI i) := h.2.2.2.1
theorem IL.tg {V F X Y : Sto} {c : Nat} (h : IL V F X Y c) : ∀ i, i < c → ∃ r, r < (V 4 0).toNatClampNeg ∧ Y 31 i = nI r ∧ ¬ F 43 (sec V r) = 0 ∧ X 50 i = F 40 (dY V r) ∧ X 51 i = lm F (dY V r) ∧ X 52 i = F 42 (dY V r) + V 31 r := h.2.2.2.2.1
theorem IL.go {V F X Y : Sto} {c : Nat} (h : IL V F X Y c) : X 10 6 = nI (gcnt V X) := h.2.2.2.2.2
theorem fI_lt {V F X : Sto} {c r i : Nat} (h : fI V F X c r = some i) : i < c := List.mem_range.mp (List.mem_of_find?_eq_some h)
/-- the island that was found, or the next one's number -/
def ixC (o : Option Nat) (c : Nat) : Int32 := match o with
  | some i => nI i
  | none => nI c
theorem ixC_some (i c : Nat) : ixC (some i) c = nI i := rfl
theorem ixC_none (c : Nat) : ixC none c = nI c := rfl
theorem findC_eq {V S F X : Sto} (h : WF V) (hC : CT V S F) (hX : Only LC F X) {c : Nat} (hc : c ≤ 32) (xc : X 10 5 = nI c) {r : Nat} (hr : r < (V 4 0).toNatClampNeg) (h3 : ¬ F 43 (sec V r) = 0) : f_Is_find X (nI r) = some (ixC (fI V F X c r) c, X) := by
  have hr1 := h.r1
  have hy1 := h.y1
  have hdX : Dat V X := hC.d.only hX (by decide)
  obtain ⟨y1, -, y3⟩ := dY_lt h hr
  have e40 := hX 40 (by decide)
  have e41 := hX 41 (by decide)
  have e42 := hX 42 (by decide)
  have e46 := hX 46 (by decide)
  have hl := leadOf_eq (V := V) (T := X) (y := dY V r) (by omega) (fun z => by rw [e41]; rw [e40] at z; exact ((hC.w h hr h3).1 z).1)
  have elm : lm X (dY V r) = lm F (dY V r) := lm_congr e40 e41 e46 _
  rw [elm] at hl
  unfold f_Is_find
  rw [ib_nI (show r < 600 by omega) (by decide), ck_mk, cI (by omega), hdX 30 rfl, y3]
  have key := fstK (L := fun n i => lp_Is_find_12 (nI r) (nI (dY V r)) (fun y1 V2 => some (y1, V2)) (fun V3 => some (V3 10 5, V3)) n (nI i) X) (P := tP V F X r) (a := 0) (N := c) (kf := fun i => some (nI i, X)) (kn := some (nI c, X)) (Nat.zero_le _) (by omega) (by
    intro n i _ hi
    show lp_Is_find_12 (nI r) (nI (dY V r)) (fun y1 V2 => some (y1, V2)) (fun V3 => some (V3 10 5, V3)) (n + 1) (nI i) X = if tP V F X r i = true then some (nI i, X) else lp_Is_find_12 (nI r) (nI (dY V r)) (fun y1 V2 => some (y1, V2)) (fun V3 => some (V3 10 5, V3)) n (nI (i + 1)) X
    rw [lp_Is_find_12, xc, if_neg (nI_ge hi (by omega)), ib_nI (show i < 32 by omega) (by decide), ib_nI (show dY V r < 400 by omega) (by decide), ib_nI (show r < 600 by omega) (by decide), cI (show i < 2 ^ 31 by omega), cI (show dY V r < 2 ^ 31 by omega), cI (show r < 2 ^ 31 by omega), hl, nI1]
    simp only [ck_mk, cl_mk]
    rw [e40, e42, hdX 31 rfl]
    unfold tP
    by_cases c1 : X 50 i = F 40 (dY V r)
    · rw [if_pos c1, decide_eq_true c1, Bool.true_and]
      by_cases c2 : X 51 i = lm F (dY V r)
      · rw [if_pos c2, decide_eq_true c2, Bool.true_and]
        by_cases c3 : X 52 i = F 42 (dY V r) + V 31 r
        · rw [if_pos c3, if_pos (decide_eq_true c3)]
        · rw [if_neg c3, if_neg (by rw [decide_eq_false c3]; decide)]
      · rw [if_neg c2, decide_eq_false c2, Bool.false_and, if_neg (by decide)]
    · rw [if_neg c1, decide_eq_false c1, Bool.false_and, if_neg (by decide)]) (by
    intro n
    show lp_Is_find_12 (nI r) (nI (dY V r)) (fun y1 V2 => some (y1, V2)) (fun V3 => some (V3 10 5, V3)) (n + 1) (nI c) X = some (nI c, X)
    rw [lp_Is_find_12, xc, if_pos (nI_le (Nat.le_refl _) (by omega))])
  unfold fI
  rcases key with ⟨t, -, k1, k2, k3, k4⟩ | ⟨k1, k2⟩
  · rw [find_some_r k1 k2 (fun j hj => k3 j (Nat.zero_le _) hj)]
    exact k4
  · rw [find_none_r (fun j hj => k1 j (Nat.zero_le _) hj)]
    exact k2
theorem sameTarget_eq {V S F X Y : Sto} (h : WF V) (hC : CT V S F) (hY : MX V F Y) {r q i : Nat} (hr : r < (V 4 0).toNatClampNeg) (hq : q < (V 4 0).toNatClampNeg) (h3 : ¬ F 43 (sec V r) = 0) (q3 : ¬ F 43 (sec V q) = 0) (x0 : X 50 i = F 40 (dY V q)) (x1 : X 51 i = lm F (dY V q)) (x2 : X 52 i = F 42 (dY V q) + V 31 q) : f_Mo_sameTarget Y (nI q) (nI r) = some (b2 (tP V F X r i), Y) := by
  have hr1 := h.r1
  have hy1 := h.y1
  have hs1 := h.s1
  obtain ⟨y1, -, y3⟩ := dY_lt h hr
  obtain ⟨z1, -, z3⟩ := dY_lt h hq
  have mr := (mean_eq h hC.n hY.m.n hY.m.r y1 (hC.a r hr h3)).1
  have mq := (mean_eq h hC.n hY.m.n hY.m.r z1 (hC.a q hq q3)).1
  unfold f_Mo_sameTarget tP
  rw [x0, x1, x2, ib_nI (show r < 600 by omega) (by decide), ib_nI (show q < 600 by omega) (by decide), cI (show r < 2 ^ 31 by omega), cI (show q < 2 ^ 31 by omega), hY.m.r.ry, y3, z3, mq.so, ib_nI (show dY V r < 400 by omega) (by decide), ib_nI (show dY V q < 400 by omega) (by decide), cI (show dY V r < 2 ^ 31 by omega), cI (show dY V q < 2 ^ 31 by omega)]
  simp only [ck_mk, cl_mk, jn_mk, mr.so]
  by_cases c1 : F 40 (dY V q) = F 40 (dY V r)
  · rw [if_pos c1, decide_eq_true c1, Bool.true_and, hY.m.r.yn, hY.m.r.ra]
    by_cases c3 : F 40 (dY V q) = 3
    · have c3' : F 40 (dY V r) = 3 := by rw [← c1]; exact c3
      rw [if_pos c3]
      have w1 : F 42 (dY V q) = 0 := by
        rcases hC.m q hq q3 with ⟨f, -⟩ | ⟨f, -⟩ | ⟨f, -⟩ | ⟨-, -, f, -⟩
        · rw [c3] at f; exact absurd f (by decide)
        · rw [c3] at f; exact absurd f (by decide)
        · rw [c3] at f; exact absurd f (by decide)
        · exact f
      have w2 : F 42 (dY V r) = 0 := by
        rcases hC.m r hr h3 with ⟨f, -⟩ | ⟨f, -⟩ | ⟨f, -⟩ | ⟨-, -, f, -⟩
        · rw [c3'] at f; exact absurd f (by decide)
        · rw [c3'] at f; exact absurd f (by decide)
        · rw [c3'] at f; exact absurd f (by decide)
        · exact f
      have l1 : lm F (dY V q) = V 22 (dY V q) := by unfold lm; rw [if_neg (by rw [c3]; decide)]; exact ((hC.w h hq q3).2 c3).1
      have l2 : lm F (dY V r) = V 22 (dY V r) := by unfold lm; rw [if_neg (by rw [c3']; decide)]; exact ((hC.w h hr h3).2 c3').1
      rw [w1, w2, l1, l2, Int32.zero_add, Int32.zero_add]
      by_cases d1 : V 22 (dY V q) = V 22 (dY V r)
      · rw [if_pos d1, decide_eq_true d1]
        by_cases d2 : V 31 q = V 31 r
        · rw [if_pos d2, decide_eq_true d2]; rfl
        · rw [if_neg d2, decide_eq_false d2]; rfl
      · rw [if_neg d1, decide_eq_false d1]; rfl
    · have c3' : ¬ F 40 (dY V r) = 3 := by rw [← c1]; exact c3
      rw [if_neg c3]
      simp only [mq.no c3, mr.no c3', cl_mk, ck_mk, jn_mk, i10, if_true, if_false, mq.se, mr.se, hY.m.r.ra]
      by_cases d : F 42 (dY V q) + V 31 q = F 42 (dY V r) + V 31 r
      · rw [if_pos d, decide_eq_true d, Bool.and_true]
        by_cases c2 : F 40 (dY V q) = 2
        · have c2' : F 40 (dY V r) = 2 := by rw [← c1]; exact c2
          rw [if_pos c2]
          have l1 : lm F (dY V q) = -1 := by
            unfold lm
            rw [if_neg (by rw [c2]; decide)]
            rcases hC.m q hq q3 with ⟨f, -⟩ | ⟨f, -⟩ | ⟨-, f⟩ | ⟨f, -⟩
            · rw [c2] at f; exact absurd f (by decide)
            · rw [c2] at f; exact absurd f (by decide)
            · exact f
            · rw [c2] at f; exact absurd f (by decide)
          have l2 : lm F (dY V r) = -1 := by
            unfold lm
            rw [if_neg (by rw [c2']; decide)]
            rcases hC.m r hr h3 with ⟨f, -⟩ | ⟨f, -⟩ | ⟨-, f⟩ | ⟨f, -⟩
            · rw [c2'] at f; exact absurd f (by decide)
            · rw [c2'] at f; exact absurd f (by decide)
            · exact f
            · rw [c2'] at f; exact absurd f (by decide)
          rw [l1, l2, decide_eq_true rfl]
          rfl
        · rw [if_neg c2]
          have c4 : F 40 (dY V q) = 1 := by
            rcases hC.m q hq q3 with ⟨f, -⟩ | ⟨f, -⟩ | ⟨f, -⟩ | ⟨f, -⟩
            · exact absurd f (hC.z q hq q3)
            · exact f
            · exact absurd f c2
            · exact absurd f c3
          have c4' : F 40 (dY V r) = 1 := by rw [← c1]; exact c4
          have wq := (hC.w h hq q3).1 c4
          have wr := (hC.w h hr h3).1 c4'
          rw [if_pos c4, if_pos c4', wq.1, ck_mk, wr.1, ck_mk, hY.l _ wq.2, hY.l _ wr.2]
          have l1 : lm F (dY V q) = F 46 ((F 41 (dY V q)).toNatClampNeg) := by unfold lm; rw [if_pos c4]
          have l2 : lm F (dY V r) = F 46 ((F 41 (dY V r)).toNatClampNeg) := by unfold lm; rw [if_pos c4']
          rw [l1, l2]
          by_cases e : F 46 ((F 41 (dY V q)).toNatClampNeg) = F 46 ((F 41 (dY V r)).toNatClampNeg)
          · rw [if_pos e, decide_eq_true e]; rfl
          · rw [if_neg e, decide_eq_false e]; rfl
      · rw [if_neg d, decide_eq_false d, Bool.and_false]; rfl
  · rw [if_neg c1, decide_eq_false c1]; rfl
theorem find54 {V S F X Y : Sto} (h : WF V) (hC : CT V S F) (hY : MX V F Y) {c : Nat} (hI : IL V F X Y c) {r : Nat} (hr : r < (V 4 0).toNatClampNeg) (h3 : ¬ F 43 (sec V r) = 0) (hm : X 53 r = -1) {k : Sto → RT} {Q : RT → Prop} (hk : ∀ Z, Only [30] Y Z → (∀ q, q ≠ r → Z 30 q = Y 30 q) → Z 30 r = optI (fI V F X c r) → Q (k Z)) : Q (lp_Mo_findIslands_54 (nI r) k FU 0 Y) := by
  have hr1 := h.r1
  have hcl := hI.hc
  refine forK (L := lp_Mo_findIslands_54 (nI r) k) (N := c) (Inv := fun i Z => Only [30] Y Z ∧ (∀ q, q ≠ r → Z 30 q = Y 30 q) ∧ Z 30 r = optI ((List.range i).find? (tP V F X r))) (Q := Q) (by omega) ?_ ?_ 0 Y (Nat.zero_le _) ⟨Only.refl, fun _ _ => rfl, by rw [(hI.is r hr).1, hm]; rfl⟩
  · rintro n i Z hi ⟨z1, z2, z3⟩ ih
    have hZ : MX V F Z := hY.only z1 (by decide)
    obtain ⟨q, q1, q2, q3, q4, q5, q6⟩ := hI.tg i hi
    have e47 : Z 0 47 = nI c := by rw [z1 0 (by decide)]; exact hI.yc
    rw [lp_Mo_findIslands_54, e47, if_neg (nI_ge hi (by omega)), ib_nI (show r < 600 by omega) (by decide), ib_nI (show i < 32 by omega) (by decide), cI (show r < 2 ^ 31 by omega), cI (show i < 2 ^ 31 by omega), z1 31 (by decide), q2, sameTarget_eq h hC hZ hr q1 h3 q3 q4 q5 q6, nI1, z3]
    simp only [ck_mk, cl_mk, nm_mk]
    have es : (List.range (i + 1)).find? (tP V F X r) = ((List.range i).find? (tP V F X r)).or (if tP V F X r i = true then some i else none) := by
      rw [List.range_succ, List.find?_append]
      congr 1
      rw [List.find?_cons]
      cases tP V F X r i <;> rfl
    have same : (List.range (i + 1)).find? (tP V F X r) = (List.range i).find? (tP V F X r) → Q (lp_Mo_findIslands_54 (nI r) k n (nI (i + 1)) (sw Z 30 r (Z 30 r))) := by
      intro hs
      refine ih _ ⟨z1.sw (by decide), fun q hq => by rw [sw_at, if_neg hq]; exact z2 q hq, ?_⟩
      rw [sw_at, if_pos rfl, hs]
      exact z3
    rw [z3] at same
    cases hf : (List.range i).find? (tP V F X r) with
    | some j =>
      have hj := List.mem_range.mp (List.mem_of_find?_eq_some hf)
      rw [hf] at same es
      rw [if_neg (show ¬ optI (some j) = -1 from m1_ne j (by omega))]
      exact same (by rw [es]; rfl)
    | none =>
      rw [hf] at same es
      rw [if_pos (show optI none = -1 from rfl)]
      cases ht : tP V F X r i with
      | false =>
        rw [if_pos b2f]
        rw [z3, hf]
        exact same (by rw [es, ht]; rfl)
      | true =>
        rw [if_neg b2t]
        refine ih _ ⟨z1.sw (by decide), fun q hq => by rw [sw_at, if_neg hq]; exact z2 q hq, ?_⟩
        rw [sw_at, if_pos rfl, es, ht]
        rfl
  · rintro n Z ⟨z1, z2, z3⟩
    have e47 : Z 0 47 = nI c := by rw [z1 0 (by decide)]; exact hI.yc
    rw [lp_Mo_findIslands_54, e47, if_pos (nI_le (Nat.le_refl _) (by omega))]
    exact hk Z z1 z2 z3
