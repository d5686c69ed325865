/-! How the order is read; searches along it. -/
def OrdQ (V W : Sto) : Prop :=
  (∀ s, s ≤ (V 2 0).toNatClampNeg → W 33 s = nI (stt V s)) ∧
  (∀ s, s < (V 2 0).toNatClampNeg → ∀ k, k < (Rl V ((V 4 0).toNatClampNeg) s).length → W 32 (stt V s + k) = nI ((Rl V ((V 4 0).toNatClampNeg) s).getD k 0))
theorem OrdQ.st {V W : Sto} (h : OrdQ V W) : ∀ s, s ≤ (V 2 0).toNatClampNeg → W 33 s = nI (stt V s) := h.1
theorem OrdQ.pk {V W : Sto} (h : OrdQ V W) : ∀ s, s < (V 2 0).toNatClampNeg → ∀ k, k < (Rl V ((V 4 0).toNatClampNeg) s).length → W 32 (stt V s + k) = nI ((Rl V ((V 4 0).toNatClampNeg) s).getD k 0) := h.2
theorem OrdP.q {V W : Sto} (h : OrdP V W) : OrdQ V W := ⟨h.st, h.pk⟩
theorem OrdQ.keep {V W X : Sto} (h : OrdQ V W) (h1 : X 32 = W 32) (h2 : X 33 = W 33) : OrdQ V X := by
  unfold OrdQ
  rw [h1, h2]
  exact h
theorem nI_sub {a b : Nat} (h : b ≤ a) (ha : a < 2 ^ 31) : nI a - nI b = nI (a - b) := by
  refine eqI ?_
  have e1 := nI_toInt (n := a) ha
  have e2 := nI_toInt (n := b) (by omega)
  rw [subI (by omega) (by omega), e1, e2, nI_toInt (by omega)]
  omega
theorem Rl_lt {V : Sto} {i s k : Nat} (hk : k < (Rl V i s).length) : (Rl V i s).getD k 0 < i ∧ sec V ((Rl V i s).getD k 0) = s := by
  have : (Rl V i s).getD k 0 ∈ Rl V i s := by
    rw [List.getD_eq_getElem?_getD, List.getElem?_eq_getElem hk]
    exact List.getElem_mem hk
  exact Rl_mem.mp this
theorem countOf_eq {V W : Sto} (h : WF V) (hq : OrdQ V W) {s : Nat} (hs : s < (V 2 0).toNatClampNeg) : f_Re_countOf W (nI s) = some (nI (Rl V ((V 4 0).toNatClampNeg) s).length, W) := by
  have hs1 := h.s1
  have hr1 := h.r1
  have h1 := stt_le V (s + 1)
  have e1 : stt V (s + 1) = stt V s + (Rl V ((V 4 0).toNatClampNeg) s).length := rfl
  unfold f_Re_countOf
  rw [nI1, ib_nI (by omega) (by decide), ck_mk, ib_nI (by omega) (by decide), ck_mk, cI (by omega), cI (by omega), hq.st _ (by omega), hq.st _ (by omega), nI_sub (by omega) (by omega), e1, Nat.add_sub_cancel_left]
theorem pick_eq {V W : Sto} (h : WF V) (hq : OrdQ V W) {s k : Nat} (hs : s < (V 2 0).toNatClampNeg) (hk : k < (Rl V ((V 4 0).toNatClampNeg) s).length) : f_Re_pick W (nI s) (nI k) = some (nI ((Rl V ((V 4 0).toNatClampNeg) s).getD k 0), W) := by
  have hs1 := h.s1
  have hr1 := h.r1
  have h1 := stt_le V (s + 1)
  have e1 : stt V (s + 1) = stt V s + (Rl V ((V 4 0).toNatClampNeg) s).length := rfl
  unfold f_Re_pick
  rw [ib_nI (by omega) (by decide), ck_mk, cI (by omega), hq.st _ (by omega), nI_add, ib_nI (by omega) (by decide), ck_mk, cI (by omega), hq.pk s hs k hk]
theorem ordTo_at {V W : Sto} (hq : OrdQ V W) : ∀ n, n ≤ (V 2 0).toNatClampNeg → ∀ i, i < stt V n → W 32 i = nI ((ordTo V n).getD i 0)
  | 0, _, i, hi => absurd hi (Nat.not_lt_zero _)
  | n + 1, hn, i, hi => by
    have e1 : stt V (n + 1) = stt V n + (Rl V ((V 4 0).toNatClampNeg) n).length := rfl
    rw [ordTo_succ]
    by_cases c : i < stt V n
    · rw [List.getD_eq_getElem?_getD, List.getElem?_append_left (by rw [ordTo_len]; exact c), ← List.getD_eq_getElem?_getD]
      exact ordTo_at hq n (by omega) i c
    · rw [List.getD_eq_getElem?_getD, List.getElem?_append_right (by rw [ordTo_len]; omega), ← List.getD_eq_getElem?_getD, ordTo_len]
      have := hq.pk n (by omega) (i - stt V n) (by omega)
      rw [show stt V n + (i - stt V n) = i by omega] at this
      exact this
theorem ord_at {V W : Sto} (h : WF V) (hq : OrdQ V W) {i : Nat} (hi : i < (V 4 0).toNatClampNeg) : W 32 i = nI ((ord V).getD i 0) := ordTo_at hq ((V 2 0).toNatClampNeg) (Nat.le_refl _) i (by rw [stt_all h]; exact hi)
theorem ord_len {V : Sto} (h : WF V) : (ord V).length = (V 4 0).toNatClampNeg := by
  unfold ord
  rw [ordTo_len, stt_all h]
theorem ord_mem {V : Sto} {r : Nat} (hr : r ∈ ord V) : r < (V 4 0).toNatClampNeg ∧ sec V r < (V 2 0).toNatClampNeg := by
  unfold ord ordTo at hr
  obtain ⟨s, h1, h2⟩ := List.mem_flatMap.mp hr
  have := Rl_mem.mp h2
  exact ⟨this.1, by rw [this.2]; exact List.mem_range.mp h1⟩
theorem mem_ord {V : Sto} (h : WF V) {r : Nat} (hr : r < (V 4 0).toNatClampNeg) : r ∈ ord V := by
  unfold ord ordTo
  exact List.mem_flatMap.mpr ⟨sec V r, List.mem_range.mpr (ib_lt (h.rs r hr).1), Rl_mem.mpr ⟨hr, rfl⟩⟩
theorem ord_lt {V : Sto} (h : WF V) {i : Nat} (hi : i < (V 4 0).toNatClampNeg) : (ord V).getD i 0 < (V 4 0).toNatClampNeg ∧ sec V ((ord V).getD i 0) < (V 2 0).toNatClampNeg := by
  refine ord_mem ?_
  rw [List.getD_eq_getElem?_getD, List.getElem?_eq_getElem (by rw [ord_len h]; exact hi)]
  exact List.getElem_mem _
/-- the first along the order that P takes, as a call tells it -/
def optI (o : Option Nat) : Int32 := match o with
  | some r => nI r
  | none => -1
def fnd (V : Sto) (P : Nat → Bool) : Int32 := optI ((ord V).find? P)
theorem find_take {l : List Nat} {P : Nat → Bool} {i : Nat} (hi : i < l.length) (hn : ∀ j, j < i → P (l.getD j 0) = false) (hp : P (l.getD i 0) = true) : l.find? P = some (l.getD i 0) := by
  rw [List.find?_eq_some_iff_getElem]
  refine ⟨hp, i, hi, ?_, fun j hj => ?_⟩
  · rw [List.getD_eq_getElem?_getD, List.getElem?_eq_getElem hi]
    rfl
  · have := hn j hj
    rw [List.getD_eq_getElem?_getD, List.getElem?_eq_getElem (by omega)] at this
    simpa using this
theorem find_none {l : List Nat} {P : Nat → Bool} (hn : ∀ j, j < l.length → P (l.getD j 0) = false) : l.find? P = none := by
  rw [List.find?_eq_none]
  intro x hx
  obtain ⟨j, hj, rfl⟩ := List.getElem_of_mem hx
  have := hn j hj
  rw [List.getD_eq_getElem?_getD, List.getElem?_eq_getElem hj] at this
  simpa using this
/-- the class's searches: L goes along the order, and ends with kf at the first that P takes, else with kn -/
theorem searchC {V : Sto} (h : WF V) {W : Sto} (hq : OrdQ V W) {ρ : Type} {L : Nat → Int32 → Sto → ρ} {P : Nat → Bool} {kf : Int32 → Sto → ρ} {kn : Sto → ρ}
    (hstep : ∀ n i r, i < (V 4 0).toNatClampNeg → W 32 i = nI r → r < (V 4 0).toNatClampNeg → sec V r < (V 2 0).toNatClampNeg → L (n + 1) (nI i) W = if P r = true then kf (nI r) W else L n (nI (i + 1)) W)
    (hend : ∀ n, L (n + 1) (nI ((V 4 0).toNatClampNeg)) W = kn W) : L FU (nI 0) W = match (ord V).find? P with
      | some r => kf (nI r) W
      | none => kn W := by
  have hr1 := h.r1
  refine forQ (L := L) (N := (V 4 0).toNatClampNeg) (Inv := fun i S => S = W ∧ ∀ j, j < i → P ((ord V).getD j 0) = false) (Q := fun x => x = match (ord V).find? P with
      | some r => kf (nI r) W
      | none => kn W) (by omega) ?_ ?_ 0 W (Nat.zero_le _) ⟨rfl, fun j hj => absurd hj (Nat.not_lt_zero _)⟩
  · rintro n i S hi ⟨rfl, hn⟩
    have hs := hstep n i _ hi (ord_at h hq hi) (ord_lt h hi).1 (ord_lt h hi).2
    rw [hs]
    by_cases c : P ((ord V).getD i 0) = true
    · rw [if_pos c]
      refine Or.inl ?_
      rw [find_take (by rw [ord_len h]; exact hi) hn c]
    · rw [if_neg c]
      refine Or.inr ⟨S, rfl, rfl, fun j hj => ?_⟩
      by_cases e : j = i
      · rw [e]; exact Bool.eq_false_iff.mpr c
      · exact hn j (by omega)
  · rintro n S ⟨rfl, hn⟩
    rw [hend, find_none (fun j hj => hn j (by rw [ord_len h] at hj; exact hj))]
/-- the reference's searches: section by section -/
theorem find_app {l1 l2 : List Nat} {P : Nat → Bool} : (l1 ++ l2).find? P = (l1.find? P).or (l2.find? P) := List.find?_append
theorem searchM {V : Sto} (h : WF V) {M : Sto} {ρ : Type} {P : Nat → Bool} {kf : Int32 → Sto → ρ} {kn : Sto → ρ} {Lo : Nat → Int32 → Sto → ρ} {Li : Nat → (Sto → ρ) → Nat → Int32 → Sto → ρ}
    (ho : ∀ n s, s < (V 2 0).toNatClampNeg → Lo (n + 1) (nI s) M = Li s (fun X => Lo n (nI (s + 1)) X) FU (nI 0) M) (hoe : ∀ n, Lo (n + 1) (nI ((V 2 0).toNatClampNeg)) M = kn M)
    (hi : ∀ s k n r, s < (V 2 0).toNatClampNeg → r < (V 4 0).toNatClampNeg → Li s k (n + 1) (nI r) M = if (decide (sec V r = s) && P r) = true then kf (nI r) M else Li s k n (nI (r + 1)) M) (hie : ∀ s k n, s < (V 2 0).toNatClampNeg → Li s k (n + 1) (nI ((V 4 0).toNatClampNeg)) M = k M) :
    Lo FU (nI 0) M = match (ord V).find? P with
      | some r => kf (nI r) M
      | none => kn M := by
  have hr1 := h.r1
  have hs1 := h.s1
  -- one section
  have inner : ∀ s k, s < (V 2 0).toNatClampNeg → Li s k FU (nI 0) M = match (Rl V ((V 4 0).toNatClampNeg) s).find? P with
      | some r => kf (nI r) M
      | none => k M := by
    intro s k hs
    refine forQ (σ := Unit) (L := fun n i _ => Li s k n i M) (N := (V 4 0).toNatClampNeg) (Inv := fun i _ => (Rl V i s).find? P = none) (Q := fun x => x = match (Rl V ((V 4 0).toNatClampNeg) s).find? P with
      | some r => kf (nI r) M
      | none => k M) (by omega) ?_ ?_ 0 () (Nat.zero_le _) rfl
    · rintro n r _ hr hn
      show (Li s k (n + 1) (nI r) M = _) ∨ ∃ S' : Unit, Li s k (n + 1) (nI r) M = Li s k n (nI (r + 1)) M ∧ _
      rw [hi s k n r hs hr]
      by_cases c : (decide (sec V r = s) && P r) = true
      · rw [if_pos c]
        refine Or.inl ?_
        rw [Bool.and_eq_true, decide_eq_true_eq] at c
        have hf : ∀ d, r + 1 + d ≤ (V 4 0).toNatClampNeg → (Rl V (r + 1 + d) s).find? P = some r := by
          intro d
          induction d with
          | zero =>
            intro _
            show (Rl V (r + 1) s).find? P = some r
            rw [Rl_succ, if_pos c.1, find_app, hn]
            simp [c.2]
          | succ d ih =>
            intro hd
            rw [show r + 1 + (d + 1) = (r + 1 + d) + 1 by omega, Rl_succ]
            by_cases e : sec V (r + 1 + d) = s
            · rw [if_pos e, find_app, ih (by omega)]
              rfl
            · rw [if_neg e]; exact ih (by omega)
        have := hf ((V 4 0).toNatClampNeg - (r + 1)) (by omega)
        rw [show r + 1 + ((V 4 0).toNatClampNeg - (r + 1)) = (V 4 0).toNatClampNeg by omega] at this
        rw [this]
      · rw [if_neg c]
        refine Or.inr ⟨(), rfl, ?_⟩
        rw [Rl_succ]
        by_cases e : sec V r = s
        · rw [if_pos e, find_app, hn]
          have : P r = false := by
            cases hp : P r with
            | false => rfl
            | true => exact absurd (by rw [e, hp]; simp) c
          simp [this]
        · rw [if_neg e]; exact hn
    · rintro n _ hn
      rw [hie s k n hs, hn]
  refine forQ (σ := Unit) (L := fun n i _ => Lo n i M) (N := (V 2 0).toNatClampNeg) (Inv := fun i _ => (ordTo V i).find? P = none) (Q := fun x => x = match (ord V).find? P with
      | some r => kf (nI r) M
      | none => kn M) (by omega) ?_ ?_ 0 () (Nat.zero_le _) rfl
  · rintro n s _ hs hn
    show (Lo (n + 1) (nI s) M = _) ∨ ∃ S' : Unit, Lo (n + 1) (nI s) M = Lo n (nI (s + 1)) M ∧ _
    rw [ho n s hs, inner s _ hs]
    have hap : ∀ r, (Rl V ((V 4 0).toNatClampNeg) s).find? P = some r → (ord V).find? P = some r := by
      intro r hr
      have hf : ∀ d, s + 1 + d ≤ (V 2 0).toNatClampNeg → (ordTo V (s + 1 + d)).find? P = some r := by
        intro d
        induction d with
        | zero =>
          intro _
          show (ordTo V (s + 1)).find? P = some r
          rw [ordTo_succ, find_app, hn, hr]
          rfl
        | succ d ih =>
          intro hd
          rw [show s + 1 + (d + 1) = (s + 1 + d) + 1 by omega, ordTo_succ, find_app, ih (by omega)]
          rfl
      have := hf ((V 2 0).toNatClampNeg - (s + 1)) (by omega)
      rw [show s + 1 + ((V 2 0).toNatClampNeg - (s + 1)) = (V 2 0).toNatClampNeg by omega] at this
      exact this
    cases hc : (Rl V ((V 4 0).toNatClampNeg) s).find? P with
    | some r =>
      refine Or.inl ?_
      rw [hap r hc]
    | none =>
      refine Or.inr ⟨(), rfl, ?_⟩
      rw [ordTo_succ, find_app, hn, hc]
      rfl
  · rintro n _ hn
    rw [hoe]
    unfold ord
    rw [hn]
