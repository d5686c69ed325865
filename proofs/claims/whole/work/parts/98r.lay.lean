/-! Where all is laid: numbers, and the class's way. -/
def upN (v a : Nat) : Nat := (v + a - 1) / a * a
theorem upN_ge {v a : Nat} (ha : 0 < a) : v ≤ upN v a := by
  unfold upN
  have := Nat.div_add_mod' (v + a - 1) a
  have h2 := Nat.mod_lt (v + a - 1) ha
  omega
theorem upN_le {v a : Nat} : upN v a ≤ v + a - 1 := Nat.div_mul_le_self _ _
theorem upN_4 {v e : Nat} (he : 2 ≤ e) : upN v (2 ^ e) % 4 = 0 := by
  unfold upN
  have : 2 ^ e = 4 * 2 ^ (e - 2) := by
    rw [show (4 : Nat) = 2 ^ 2 by rfl, ← Nat.pow_add]
    congr 1
    omega
  rw [this, ← Nat.mul_assoc, Nat.mul_comm _ 4, Nat.mul_assoc]
  exact Nat.mul_mod_right 4 _
theorem upN_4' {v : Nat} (h : v % 4 = 0) : upN v 4 = v := by
  unfold upN
  omega
theorem and_mask (x e : Nat) (hx : x < 2 ^ 31) (he : e ≤ 30) : x &&& (2 ^ 32 - 2 ^ e) = x / 2 ^ e * 2 ^ e := by
  have h1 : x / 2 ^ e * 2 ^ e = (x >>> e) <<< e := by rw [Nat.shiftRight_eq_div_pow, Nat.shiftLeft_eq]
  have hp : 0 < 2 ^ e := Nat.pos_of_ne_zero (by
    intro z
    have := Nat.pow_eq_zero.mp z
    omega)
  have hle : 2 ^ e ≤ 2 ^ 30 := Nat.pow_le_pow_right (by decide) he
  have h2 : 2 ^ 32 - 2 ^ e = 2 ^ 32 - ((2 ^ e - 1) + 1) := by
    congr 1
    omega
  rw [h1, h2]
  refine Nat.eq_of_testBit_eq (fun i => ?_)
  rw [Nat.testBit_and, Nat.testBit_two_pow_sub_succ (by omega), Nat.testBit_two_pow_sub_one, Nat.testBit_shiftLeft, Nat.testBit_shiftRight]
  by_cases c : e ≤ i
  · rw [decide_eq_true (show i ≥ e from c), Bool.true_and, show e + (i - e) = i by omega, decide_eq_false (show ¬ i < e by omega), Bool.not_false, Bool.and_true]
    by_cases d : i < 32
    · rw [decide_eq_true d, Bool.and_true]
    · rw [decide_eq_false d, Bool.and_false]
      refine (Nat.testBit_lt_two_pow (Nat.lt_of_lt_of_le hx ?_)).symm
      exact Nat.pow_le_pow_right (by decide) (by omega)
  · rw [decide_eq_false (show ¬ i ≥ e from c), Bool.false_and, decide_eq_true (show i < e by omega), Bool.not_true, Bool.and_false, Bool.and_false]
theorem and_neg (x e : Nat) (hx : x < 2 ^ 31) (he : e ≤ 30) : nI x &&& -(nI (2 ^ e)) = nI (x / 2 ^ e * 2 ^ e) := by
  have hle : 2 ^ e ≤ 2 ^ 30 := Nat.pow_le_pow_right (by decide) he
  have hp : 0 < 2 ^ e := Nat.pos_of_ne_zero (by
    intro z
    have := Nat.pow_eq_zero.mp z
    omega)
  have hm := and_mask x e hx he
  have hlx : x / 2 ^ e * 2 ^ e ≤ x := Nat.div_mul_le_self _ _
  refine Int32.toBitVec_inj.mp (BitVec.eq_of_toNat_eq ?_)
  rw [Int32.toBitVec_and, Int32.toBitVec_neg, BitVec.toNat_and, BitVec.toNat_neg]
  show (BitVec.ofNat 32 x).toNat &&& (2 ^ 32 - (BitVec.ofNat 32 (2 ^ e)).toNat) % 2 ^ 32 = (BitVec.ofNat 32 (x / 2 ^ e * 2 ^ e)).toNat
  rw [BitVec.toNat_ofNat, BitVec.toNat_ofNat, BitVec.toNat_ofNat, Nat.mod_eq_of_lt (show x < 2 ^ 32 by omega), Nat.mod_eq_of_lt (show 2 ^ e < 2 ^ 32 by omega), Nat.mod_eq_of_lt (show 2 ^ 32 - 2 ^ e < 2 ^ 32 by omega), Nat.mod_eq_of_lt (show x / 2 ^ e * 2 ^ e < 2 ^ 32 by omega)]
  exact hm
theorem nI_1' : (1 : Int32) = nI 1 := rfl
theorem put_eq {T : Sto} {v z e : Nat} (h5 : T 9 5 = nI v) (hv : v < 2 ^ 30) (he : e ≤ 20) : f_La_put T (nI z) (nI (2 ^ e)) = some (nI (upN v (2 ^ e)), sw T 9 5 (nI (upN v (2 ^ e) + z))) := by
  have hle : 2 ^ e ≤ 2 ^ 20 := Nat.pow_le_pow_right (by decide) he
  have hp : 0 < 2 ^ e := Nat.pos_of_ne_zero (by
    intro z
    have := Nat.pow_eq_zero.mp z
    omega)
  unfold f_La_put
  have e1 : (T 9 5 + nI (2 ^ e) - 1) &&& -(nI (2 ^ e)) = nI (upN v (2 ^ e)) := by
    rw [h5, nI_add, nI_1', nI_sub (by omega) (by omega), and_neg _ _ (by omega) (by omega)]
    rfl
  rw [e1, nI_add, nm_mk]
theorem upM_eq {X : Sto} {v e : Nat} (hv : v < 2 ^ 30) (he : e ≤ 20) : f_Mo_up X (nI v) (nI (2 ^ e)) = some (nI (upN v (2 ^ e)), X) := by
  have hle : 2 ^ e ≤ 2 ^ 20 := Nat.pow_le_pow_right (by decide) he
  have hp : 0 < 2 ^ e := Nat.pos_of_ne_zero (by
    intro z
    have := Nat.pow_eq_zero.mp z
    omega)
  unfold f_Mo_up
  rw [decide_eq_false (nI_ne0 hp (by omega)), Bool.not_false, ck_mk, nI_add, nI_1', nI_sub (by omega) (by omega), nI_div (by omega) (by omega) hp, nI_mul]
  rfl
def stg (F : Sto) (s : Nat) : Bool := !decide (F 43 s = 0) && decide (F 46 s = nI s)
/-- where the next one is laid, once i sections of a kind are -/
def pk (V F : Sto) (k : Int32) (v : Nat) : Nat → Nat
  | 0 => v
  | i + 1 => if stg F i = true ∧ V 16 i = k then upN (pk V F k v i) ((V 18 i).toNatClampNeg) + (V 17 i).toNatClampNeg else pk V F k v i
theorem al_e {V : Sto} (h : WF V) {s : Nat} (hs : s < (V 2 0).toNatClampNeg) : ∃ e, 2 ≤ e ∧ e ≤ 12 ∧ V 18 s = nI (2 ^ e) ∧ (V 18 s).toNatClampNeg = 2 ^ e ∧ 2 ^ e ≤ 4096 := by
  obtain ⟨e, e1, e2, e3⟩ := h.al s hs
  have hle : 2 ^ e ≤ 2 ^ 12 := Nat.pow_le_pow_right (by decide) e2
  exact ⟨e, e1, e2, e3, by rw [e3, cI (by omega)], hle⟩
theorem pk_ub {V F : Sto} (h : WF V) (k : Int32) (v : Nat) : ∀ i, i ≤ (V 2 0).toNatClampNeg → pk V F k v i ≤ v + 12288 * i := by
  intro i
  induction i with
  | zero => intro _; exact Nat.le_refl _
  | succ i ih =>
    intro hi
    have h1 := ih (by omega)
    show (if stg F i = true ∧ V 16 i = k then _ else _) ≤ _
    by_cases c : stg F i = true ∧ V 16 i = k
    · rw [if_pos c]
      obtain ⟨e, -, -, -, e4, e5⟩ := al_e h (show i < (V 2 0).toNatClampNeg by omega)
      have := ib_lt (h.sz i (by omega)).1
      have := upN_le (v := pk V F k v i) (a := (V 18 i).toNatClampNeg)
      rw [e4] at this ⊢
      omega
    · rw [if_neg c]; omega
theorem pk_step {V F : Sto} (h : WF V) (k : Int32) (v : Nat) {i : Nat} (hi : i < (V 2 0).toNatClampNeg) : pk V F k v i ≤ pk V F k v (i + 1) := by
  show _ ≤ (if stg F i = true ∧ V 16 i = k then _ else _)
  by_cases c : stg F i = true ∧ V 16 i = k
  · rw [if_pos c]
    obtain ⟨e, e1, -, -, e4, -⟩ := al_e h hi
    have hp : 0 < (V 18 i).toNatClampNeg := by
      rw [e4]
      exact Nat.pos_of_ne_zero (fun z => by have := Nat.pow_eq_zero.mp z; omega)
    have := upN_ge (v := pk V F k v i) hp
    omega
  · rw [if_neg c]; exact Nat.le_refl _
theorem pk_mono {V F : Sto} (h : WF V) (k : Int32) (v : Nat) {i j : Nat} (hij : i ≤ j) (hj : j ≤ (V 2 0).toNatClampNeg) : pk V F k v i ≤ pk V F k v j := by
  induction j with
  | zero => rw [show i = 0 by omega]; exact Nat.le_refl _
  | succ j ih =>
    by_cases c : i = j + 1
    · rw [c]; exact Nat.le_refl _
    · exact Nat.le_trans (ih (by omega) (by omega)) (pk_step h k v (by omega))
theorem pk_4 {V F : Sto} (h : WF V) (k : Int32) {v : Nat} (hv : v % 4 = 0) : ∀ i, i ≤ (V 2 0).toNatClampNeg → pk V F k v i % 4 = 0 := by
  intro i
  induction i with
  | zero => intro _; exact hv
  | succ i ih =>
    intro hi
    show (if stg F i = true ∧ V 16 i = k then _ else _) % 4 = 0
    by_cases c : stg F i = true ∧ V 16 i = k
    · rw [if_pos c]
      obtain ⟨e, e1, -, -, e4, -⟩ := al_e h (show i < (V 2 0).toNatClampNeg by omega)
      have h1 := upN_4 (v := pk V F k v i) e1
      have h2 := (h.sz i (by omega)).2
      rw [e4]
      omega
    · rw [if_neg c]; exact ih (by omega)
/-- where a section stands, if its kind begins at v -/
def adk (V F : Sto) (k : Int32) (v s : Nat) : Nat := upN (pk V F k v s) ((V 18 s).toNatClampNeg)
/-- the leader's number -/
def ldr (F : Sto) (s : Nat) : Nat := (F 46 s).toNatClampNeg
abbrev LC : List Nat := [0, 9, 10, 48, 49, 50, 51, 52, 53]
theorem isFolded_eq {F X : Sto} (hF : X 46 = F 46) {s : Nat} (hs : s < 96) : f_Fo_isFolded X (nI s) = some (b2 (!decide (F 46 s = nI s)), X) := by
  unfold f_Fo_isFolded
  rw [ib_nI hs (by decide), ck_mk, cI (by omega), hF]
  by_cases c : F 46 s = nI s
  · rw [if_pos c, decide_eq_true c]; rfl
  · rw [if_neg c, decide_eq_false c]; rfl
theorem laySec_eq {V S F X : Sto} (h : WF V) (hd : Dat V X) (hF : FD V S F) (h43 : X 43 = F 43) (h46 : X 46 = F 46) (hS : F 43 = S 43) {k : Int32} {v : Nat} (hv : v < 2 ^ 27) (h5 : X 9 5 = nI v) : ∃ Y, f_La_laySections X k = some (0, Y) ∧ Only [9, 48] X Y ∧ (∀ j, j ≠ 5 → Y 9 j = X 9 j) ∧ Y 9 5 = nI (pk V F k v ((V 2 0).toNatClampNeg)) ∧ (∀ s, s < (V 2 0).toNatClampNeg → ¬ F 43 s = 0 → V 16 s = k → Y 48 s = nI (adk V F k v (ldr F s))) ∧ ∀ s, (F 43 s = 0 ∨ ¬ V 16 s = k) → Y 48 s = X 48 s := by
  have hs1 := h.s1
  unfold f_La_laySections
  refine forK (L := lp_La_laySections_2 k (fun V5 => some (0, V5))) (N := (V 2 0).toNatClampNeg) (Inv := fun i Y => Only [9, 48] X Y ∧ (∀ j, j ≠ 5 → Y 9 j = X 9 j) ∧ Y 9 5 = nI (pk V F k v i) ∧ (∀ s, s < i → ¬ F 43 s = 0 → V 16 s = k → Y 48 s = nI (adk V F k v (ldr F s))) ∧ ∀ s, (F 43 s = 0 ∨ ¬ V 16 s = k) → Y 48 s = X 48 s) (Q := fun r => ∃ Y, r = some (0, Y) ∧ Only [9, 48] X Y ∧ (∀ j, j ≠ 5 → Y 9 j = X 9 j) ∧ Y 9 5 = nI (pk V F k v ((V 2 0).toNatClampNeg)) ∧ (∀ s, s < (V 2 0).toNatClampNeg → ¬ F 43 s = 0 → V 16 s = k → Y 48 s = nI (adk V F k v (ldr F s))) ∧ ∀ s, (F 43 s = 0 ∨ ¬ V 16 s = k) → Y 48 s = X 48 s) (by omega) ?_ ?_ 0 X (Nat.zero_le _) ⟨Only.refl, fun _ _ => rfl, h5, fun s hs => absurd hs (Nat.not_lt_zero _), fun _ _ => rfl⟩
  · rintro n i Y hi ⟨y1, y2, y3, y4, y5⟩ ih
    have hdY : Dat V Y := hd.only y1 (by decide)
    have e43 : Y 43 = F 43 := by rw [y1 43 (by decide), h43]
    have e46 : Y 46 = F 46 := by rw [y1 46 (by decide), h46]
    have hpl := pk_ub (F := F) h k v i (by omega)
    have eps : pk V F k v (i + 1) = if stg F i = true ∧ V 16 i = k then upN (pk V F k v i) ((V 18 i).toNatClampNeg) + (V 17 i).toNatClampNeg else pk V F k v i := rfl
    rw [lp_La_laySections_2, hdY 2 rfl, if_neg (fun z => by have := (le_cnt h.s0 (by omega)).mp z; omega), ib_nI (show i < 96 by omega) (by decide), cI (by omega), e43, hdY 16 rfl, isFolded_eq e46 (show i < 96 by omega), nI1]
    simp only [ck_mk, cl_mk, nm_mk, e46]
    have skip : (F 43 i = 0 ∨ ¬ V 16 i = k) → ∃ Z, lp_La_laySections_2 k (fun V5 => some (0, V5)) n (nI (i + 1)) Y = some (0, Z) ∧ Only [9, 48] X Z ∧ (∀ j, j ≠ 5 → Z 9 j = X 9 j) ∧ Z 9 5 = nI (pk V F k v ((V 2 0).toNatClampNeg)) ∧ (∀ s, s < (V 2 0).toNatClampNeg → ¬ F 43 s = 0 → V 16 s = k → Z 48 s = nI (adk V F k v (ldr F s))) ∧ ∀ s, (F 43 s = 0 ∨ ¬ V 16 s = k) → Z 48 s = X 48 s := by
      intro hc
      refine ih Y ⟨y1, y2, ?_, fun s hs z1 z2 => ?_, y5⟩
      · rw [eps, if_neg (fun z => ?_)]
        · exact y3
        · rcases hc with c | c
          · have hz := z.1
            unfold stg at hz
            rw [decide_eq_true c, Bool.not_true, Bool.false_and] at hz
            cases hz
          · exact c z.2
      · by_cases e : s = i
        · subst e
          rcases hc with c | c
          · exact absurd c z1
          · exact absurd z2 c
        · exact y4 s (by omega) z1 z2
    by_cases c1 : F 43 i = 0
    · rw [if_pos c1]; exact skip (Or.inl c1)
    · rw [if_neg c1]
      by_cases c2 : V 16 i = k
      · rw [if_pos c2]
        by_cases c3 : F 46 i = nI i
        · rw [decide_eq_true c3, Bool.not_true, if_pos b2f]
          obtain ⟨e, e1, e2, e3, e4, e5⟩ := al_e h hi
          have ez := ib_eq (h.sz i hi).1
          have hp := put_eq (T := Y) (z := (V 17 i).toNatClampNeg) (e := e) y3 (by omega) (by omega)
          rw [← e3, ← ez] at hp
          rw [hdY 17 rfl, hdY 18 rfl, hp, cl_mk]
          have hst : stg F i = true := by unfold stg; rw [decide_eq_false c1, decide_eq_true c3]; rfl
          refine ih _ ⟨(y1.sw (by decide)).sw (by decide), fun j hj => ?_, ?_, fun s hs z1 z2 => ?_, fun s hs => ?_⟩
          · rw [sw_ne (by decide), sw_at, if_neg hj]; exact y2 j hj
          · rw [sw_ne (by decide), sw_at, if_pos rfl, eps, if_pos ⟨hst, c2⟩, e4]
          · rw [sw_at]
            by_cases g : s = i
            · subst g
              rw [if_pos rfl]
              unfold adk ldr
              rw [c3, cI (by omega), e4]
            · rw [if_neg g, sw_ne (by decide)]; exact y4 s (by omega) z1 z2
          · rw [sw_at, if_neg (fun g => ?_), sw_ne (by decide)]
            · exact y5 s hs
            · subst g
              rcases hs with c | c
              · exact c1 c
              · exact c c2
        · rw [decide_eq_false c3, Bool.not_false, if_neg b2t]
          have hn := hF.n i hi
          have hle := hF.le i hi
          have hld := hF.ld i hi
          have hlt : (F 46 i).toNatClampNeg < i := by
            rcases Nat.lt_or_ge ((F 46 i).toNatClampNeg) i with g | g
            · exact g
            · exfalso; apply c3; rw [hn, show (F 46 i).toNatClampNeg = i by omega]
          obtain ⟨g1, g2, g3, g4⟩ := (hF.b ((F 46 i).toNatClampNeg) i (by omega) hi hld).resolve_left (by omega)
          have l43 : ¬ F 43 ((F 46 i).toNatClampNeg) = 0 := by rw [hS]; exact (mf_text g2).2.2.1
          have l16 : V 16 ((F 46 i).toNatClampNeg) = k := by rw [(mf_text g2).1, ← c2, (mf_text g3).1]
          have il : ib (F 46 i) 96 = true := by rw [hn]; exact ib_nI (by omega) (by decide)
          rw [il, ck_mk]
          have hY := y4 ((F 46 i).toNatClampNeg) hlt l43 l16
          refine ih _ ⟨y1.sw (by decide), fun j hj => ?_, ?_, fun s hs z1 z2 => ?_, fun s hs => ?_⟩
          · rw [sw_ne (by decide)]; exact y2 j hj
          · rw [sw_ne (by decide), y3, eps, if_neg (fun z => ?_)]
            have hz := z.1
            unfold stg at hz
            rw [decide_eq_false c3, Bool.and_false] at hz
            cases hz
          · rw [sw_at]
            by_cases g : s = i
            · subst g
              rw [if_pos rfl, hY]
              unfold ldr
              rw [hld]
            · rw [if_neg g]; exact y4 s (by omega) z1 z2
          · rw [sw_at, if_neg (fun g => ?_)]
            · exact y5 s hs
            · subst g
              rcases hs with c | c
              · exact c1 c
              · exact c c2
      · rw [if_neg c2]; exact skip (Or.inr c2)
  · rintro n Y ⟨y1, y2, y3, y4, y5⟩
    have hdY : Dat V Y := hd.only y1 (by decide)
    rw [lp_La_laySections_2, hdY 2 rfl, if_pos ((le_cnt h.s0 (by omega)).mpr (Nat.le_refl _))]
    exact ⟨Y, rfl, y1, y2, y3, y4, y5⟩
