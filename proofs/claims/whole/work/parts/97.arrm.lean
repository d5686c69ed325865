/-! The reference brings units in as the class does. -/
theorem addm1 (x : Int32) : x + (-1) = x - 1 := by rw [Int32.sub_eq_add_neg]
/-- how many are still out -/
def out (V : Sto) (A : Nat → Bool) : Nat := (List.range ((V 1 0).toNatClampNeg)).countP (fun u => !A u)
theorem out_le (V : Sto) (A : Nat → Bool) : out V A ≤ (V 1 0).toNatClampNeg := by
  have := List.countP_le_length (p := fun u => !A u) (l := List.range ((V 1 0).toNatClampNeg))
  rw [List.length_range] at this
  exact this
theorem countP_lt {l : List Nat} {p q : Nat → Bool} (hle : ∀ x ∈ l, q x = true → p x = true) {a : Nat} (ha : a ∈ l) (hp : p a = true) (hq : q a = false) : l.countP q < l.countP p := by
  induction l with
  | nil => cases ha
  | cons b l ih =>
    rw [List.countP_cons, List.countP_cons]
    have hl : ∀ x ∈ l, q x = true → p x = true := fun x hx => hle x (List.mem_cons_of_mem _ hx)
    have hm : l.countP q ≤ l.countP p := List.countP_mono_left hl
    rcases List.mem_cons.mp ha with e | e
    · subst e
      rw [hp, hq]
      simp
      omega
    · have := ih hl e
      have hb := hle b List.mem_cons_self
      cases hqb : q b with
      | false => simp; omega
      | true => rw [hb hqb]; simp; omega
theorem out_add {V : Sto} {A : Nat → Bool} {u : Nat} (hu : u < (V 1 0).toNatClampNeg) (hA : A u = false) : out V (addU A u) < out V A := by
  unfold out
  refine countP_lt (a := u) (fun x _ hx => ?_) (List.mem_range.mpr hu) (by rw [hA]; rfl) (by unfold addU; simp)
  unfold addU at hx
  cases hh : A x with
  | false => rfl
  | true => rw [hh] at hx; simp at hx
theorem out_brg {V : Sto} {a : Nat} : ∀ (n : Nat) (A : Nat → Bool), out V (brg V a n A) ≤ out V A := by
  intro n
  induction n with
  | zero => intro A; exact Nat.le_refl _
  | succ n ih =>
    intro A
    cases hf : fstU V A a with
    | none => rw [brg_none hf]; exact Nat.le_refl _
    | some u =>
      rw [brg_some hf]
      obtain ⟨h1, h2⟩ := fst_lt hf
      exact Nat.le_of_lt (Nat.lt_of_le_of_lt (ih _) (out_add h1 h2))
theorem out_came {V : Sto} {a : Nat} {A : Nat → Bool} (h : came V A a = true) : out V (brg V a 24 A) < out V A := by
  unfold came at h
  cases hf : fstU V A a with
  | none => rw [hf] at h; cases h
  | some u =>
    rw [brg_some hf]
    obtain ⟨h1, h2⟩ := fst_lt hf
    exact Nat.lt_of_le_of_lt (out_brg _ _) (out_add h1 h2)
theorem out_goN {V : Sto} {A : Nat → Bool} : ∀ i, out V (goN V A i).1 ≤ out V A ∧ ((goN V A i).2 = true → out V (goN V A i).1 < out V A) := by
  intro i
  induction i with
  | zero => exact ⟨Nat.le_refl _, fun h => by cases h⟩
  | succ i ih =>
    have hb := out_brg (V := V) (a := i) 24 (goN V A i).1
    refine ⟨Nat.le_trans hb ih.1, fun h => ?_⟩
    have h' : ((goN V A i).2 || came V (goN V A i).1 i) = true := h
    rw [Bool.or_eq_true] at h'
    rcases h' with h' | h'
    · exact Nat.lt_of_le_of_lt hb (ih.2 h')
    · exact Nat.lt_of_lt_of_le (out_came h') ih.1
theorem bring19 {V M : Sto} (h : WF V) {A : Nat → Bool} (hM : MI V A M) {a : Nat} (ha : a < 4) {k : Int32 → Sto → RT} : lp_Mo_bring_19 (nI a) k FU (-1) (nI ((V 1 0).toNatClampNeg) - 1) M = k (optI (fstU V A a)) M := by
  have hu1 := h.u1
  have hr := hM.r
  have key := forD (σ := Int32) (L := fun n i x => lp_Mo_bring_19 (nI a) k n x i M) (Inv := fun i x => i ≤ (V 1 0).toNatClampNeg ∧ ((x = -1 ∧ ∀ u, i ≤ u → u < (V 1 0).toNatClampNeg → cand V A a u = false) ∨ ∃ u, x = nI u ∧ u < (V 1 0).toNatClampNeg ∧ cand V A a u = true ∧ ∀ v, i ≤ v → v < u → cand V A a v = false)) (Q := fun r => r = k (optI (fstU V A a)) M) (by
    rintro n i x ⟨h1, hx⟩ ih
    have stay : cand V A a i = false → (i ≤ (V 1 0).toNatClampNeg ∧ ((x = -1 ∧ ∀ u, i ≤ u → u < (V 1 0).toNatClampNeg → cand V A a u = false) ∨ ∃ u, x = nI u ∧ u < (V 1 0).toNatClampNeg ∧ cand V A a u = true ∧ ∀ v, i ≤ v → v < u → cand V A a v = false)) := by
      intro hc
      refine ⟨by omega, ?_⟩
      rcases hx with ⟨x1, x2⟩ | ⟨u, x1, x2, x3, x4⟩
      · refine Or.inl ⟨x1, fun u h1 h2 => ?_⟩
        by_cases e : u = i
        · rw [e]; exact hc
        · exact x2 u (by omega) h2
      · refine Or.inr ⟨u, x1, x2, x3, fun v h1 h2 => ?_⟩
        by_cases e : v = i
        · rw [e]; exact hc
        · exact x4 v (by omega) h2
    show lp_Mo_bring_19 (nI a) k (n + 1) x (nI i) M = _
    rw [lp_Mo_bring_19, if_neg (nI_pos (by omega)), ib_nI (by omega) (by decide), cI (by omega), hr.arc, hM.u i (by omega), helps_eq h hM (by omega), addm1]
    simp only [ck_mk, cl_mk]
    by_cases c : V 12 i = nI a
    · rw [if_pos c]
      cases hA : A i with
      | true =>
        rw [if_neg b2t]
        exact ih x (stay (by unfold cand; rw [hA]; simp))
      | false =>
        rw [if_pos b2f]
        cases hh : hlp V A i with
        | false =>
          rw [if_pos b2f]
          exact ih x (stay (by unfold cand; rw [hh]; simp))
        | true =>
          rw [if_neg b2t]
          exact ih (nI i) ⟨by omega, Or.inr ⟨i, rfl, by omega, by unfold cand; rw [hA, hh]; simp [c], fun v h1 h2 => by omega⟩⟩
    · rw [if_neg c]
      exact ih x (stay (by unfold cand; simp [c]))) (by
    rintro n x ⟨h1, hx⟩
    show lp_Mo_bring_19 (nI a) k (n + 1) x (-1) M = _
    rw [lp_Mo_bring_19, if_pos (by decide)]
    rcases hx with ⟨x1, x2⟩ | ⟨u, x1, x2, x3, x4⟩
    · rw [fstU_none (fun v hv => x2 v (Nat.zero_le _) hv), x1]
      rfl
    · rw [fstU_some x2 x3 (fun v hv => x4 v (Nat.zero_le _) hv), x1]
      rfl) ((V 1 0).toNatClampNeg) (-1) (by omega) ⟨Nat.le_refl _, Or.inl ⟨rfl, fun u h1 h2 => by omega⟩⟩
  exact key
theorem MI.set {V M : Sto} {A : Nat → Bool} (hM : MI V A M) {u : Nat} : MI V (addU A u) (sw M 20 u 1) := by
  refine ⟨hM.r.only (L := [20]) (Only.refl.sw (by decide)) (by decide), fun v hv => ?_⟩
  rw [sw_at]
  unfold addU
  by_cases e : v = u
  · rw [if_pos e, decide_eq_true e, Bool.or_true]; rfl
  · rw [if_neg e, decide_eq_false e, Bool.or_false]; exact hM.u v hv
theorem bring_eq {V M : Sto} (h : WF V) {A : Nat → Bool} (hM : MI V A M) {a : Nat} (ha : a < 4) : ∃ W, f_Mo_bring M (nI a) = some (b2 (came V A a), W) ∧ Only [20] M W ∧ MI V (brg V a 24 A) W := by
  have hu1 := h.u1
  have hr := hM.r
  unfold f_Mo_bring
  have key := loopK (σ := Int32 × Int32 × Sto) (L := fun n T => lp_Mo_bring_4 (nI a) (fun y2 V4 => ck (bb y2) <| some (y2, V4)) n T.1 T.2.1 T.2.2) (Inv := fun m T => Only [20] M T.2.2 ∧ ∃ B, MI V B T.2.2 ∧ ((T.2.1 = 0 ∧ B = brg V a 24 A ∧ T.1 = b2 (came V A a)) ∨ (T.2.1 = 1 ∧ ∃ j, m = j + 1 ∧ out V B ≤ j ∧ brg V a j B = brg V a 24 A ∧ ((B = A ∧ T.1 = 0) ∨ (came V A a = true ∧ T.1 = 1))))) (Q := fun r => ∃ W, r = some (b2 (came V A a), W) ∧ Only [20] M W ∧ MI V (brg V a 24 A) W) (by
    rintro n m ⟨x, y, T⟩ ⟨h0, B, hB, hc⟩ ih
    simp only at h0 hB hc
    show ∃ W, lp_Mo_bring_4 (nI a) (fun y2 V4 => ck (bb y2) <| some (y2, V4)) (n + 1) x y T = _ ∧ _
    rw [lp_Mo_bring_4]
    rcases hc with ⟨c1, c2, c3⟩ | ⟨c1, j, c2, c3, c4, c5⟩
    · rw [if_pos c1, c3, bb_b2, ck_mk]
      subst c2
      exact ⟨T, rfl, h0, hB⟩
    · rw [if_neg (by rw [c1]; decide), hB.r.u0]
      have e0 := h.u0
      have hb := bring19 h hB ha (k := fun y1 V2 => jn (fun (z1 : Int32) => if z1 = 0 then lp_Mo_bring_4 (nI a) (fun y2 V4 => ck (bb y2) <| some (y2, V4)) n x z1 V2 else ck (ib y1 24) <| nm (sw V2 20 y1.toNatClampNeg 1) fun V3 => lp_Mo_bring_4 (nI a) (fun y2 V4 => ck (bb y2) <| some (y2, V4)) n 1 z1 V3) fun j1 => if y1 = (-1) then j1 0 else j1 1)
      rw [← e0] at hb
      rw [hb]
      simp only [jn_mk, i10, if_true, if_false]
      cases hf : fstU V B a with
      | none =>
        rw [if_pos (show optI none = -1 from rfl)]
        rw [brg_none hf] at c4
        refine ih 0 (x, 0, T) (by omega) ⟨h0, B, hB, Or.inl ⟨rfl, c4, ?_⟩⟩
        rcases c5 with ⟨e1, e2⟩ | ⟨e1, e2⟩
        · subst e1
          unfold came
          rw [hf]
          exact e2
        · rw [e1]; exact e2
      | some u =>
        obtain ⟨hu, hA⟩ := fst_lt hf
        have ho := out_add hu hA
        rw [if_neg (show ¬ optI (some u) = -1 from m1_ne u (by omega))]
        have ei : ib (optI (some u)) 24 = true := ib_nI (by omega) (by decide)
        have ec : (optI (some u)).toNatClampNeg = u := cI (by omega)
        rw [ei, ck_mk, nm_mk, ec]
        refine ih j (1, 1, sw T 20 u 1) (by omega) ⟨h0.sw (by decide), addU B u, hB.set, Or.inr ⟨rfl, j - 1, by omega, by omega, ?_, Or.inr ⟨?_, rfl⟩⟩⟩
        · rw [← c4, show j = (j - 1) + 1 by omega, brg_some hf]
          rfl
        · rcases c5 with ⟨e1, e2⟩ | ⟨e1, e2⟩
          · subst e1
            unfold came
            rw [hf]
            rfl
          · exact e1) 25 FU (0, 1, M) ⟨Only.refl, A, hM, Or.inr ⟨rfl, 24, rfl, Nat.le_trans (out_le V A) hu1, rfl, Or.inl ⟨rfl, rfl⟩⟩⟩ (by unfold FU; omega)
  exact key
theorem find47 {V M : Sto} (h : WF V) {A : Nat → Bool} (hM : MI V A M) {k : Int32 → Sto → RT} {Q : RT → Prop} (hk : ∀ W, Only [20] M W → MI V (go4 V A).1 W → Q (k (b2 (go4 V A).2) W)) : Q (lp_Mo_findIn_47 k FU 0 0 M) := by
  have key := forK (σ := Int32 × Sto) (L := fun n i T => lp_Mo_findIn_47 k n T.1 i T.2) (N := 4) (Inv := fun i T => Only [20] M T.2 ∧ MI V (goN V A i).1 T.2 ∧ T.1 = b2 (goN V A i).2) (Q := Q) (by omega) (by
    rintro n i ⟨x, T⟩ hi ⟨h0, h1, h2⟩ ih
    simp only at h0 h1 h2
    obtain ⟨W, w1, w2, w3⟩ := bring_eq h h1 hi
    show Q (lp_Mo_findIn_47 k (n + 1) x (nI i) T)
    rw [lp_Mo_findIn_47, if_neg (fun z => by have := (nI_le_iff (a := 4) (by omega) (by omega)).mp z; omega), nI1, w1, cl_mk, h2]
    have e : (goN V A (i + 1)).2 = ((goN V A i).2 || came V (goN V A i).1 i) := rfl
    cases hc : came V (goN V A i).1 i with
    | false =>
      rw [if_pos b2f]
      cases hg : (goN V A i).2 with
      | false =>
        rw [if_pos b2f]
        exact ih (0, W) ⟨h0.trans w2, w3, by rw [e, hc, hg]; rfl⟩
      | true =>
        rw [if_neg b2t]
        exact ih (1, W) ⟨h0.trans w2, w3, by rw [e, hc, hg]; rfl⟩
    | true =>
      rw [if_neg b2t]
      exact ih (1, W) ⟨h0.trans w2, w3, by rw [e, hc, Bool.or_true]; rfl⟩) (by
    rintro n ⟨x, T⟩ ⟨h0, h1, h2⟩
    simp only at h0 h1 h2
    show Q (lp_Mo_findIn_47 k (n + 1) x (nI 4) T)
    rw [lp_Mo_findIn_47, if_pos (show (4 : Int32) ≤ nI 4 from (nI_le_iff (a := 4) (by omega) (by omega)).mpr (Nat.le_refl _)), h2]
    exact hk T h0 h1) 0 (0, M) (Nat.zero_le _) ⟨Only.refl, hM, rfl⟩
  exact key
theorem findIn_eq {V M : Sto} (h : WF V) (hr : RelD V M) : ∃ W, f_Mo_findIn M = some (0, W) ∧ Only [20] M W ∧ MI V (inS V) W := by
  have hu1 := h.u1
  have l2 : ∀ T : Sto, Only [20] M T → MI V (A0 V) T → ∃ W, lp_Mo_findIn_39 (fun V6 => some (0, V6)) FU 1 T = some (0, W) ∧ Only [20] M W ∧ MI V (inS V) W := by
    intro T hT hA
    have key := loopK (σ := Int32 × Sto) (L := fun n T => lp_Mo_findIn_39 (fun V6 => some (0, V6)) n T.1 T.2) (Inv := fun m T => Only [20] M T.2 ∧ ∃ B, MI V B T.2 ∧ ((T.1 = 0 ∧ B = inS V) ∨ (T.1 = 1 ∧ ∃ j, j + 1 ≤ m ∧ 0 < j ∧ (¬ V 0 13 = 0 → out V B < j) ∧ rnds V j B = inS V ∧ (V 0 13 = 0 → j = 1)))) (Q := fun r => ∃ W, r = some (0, W) ∧ Only [20] M W ∧ MI V (inS V) W) (by
      rintro n m ⟨x, T⟩ ⟨h0, B, hB, hc⟩ ih
      simp only at h0 hB hc
      show ∃ W, lp_Mo_findIn_39 (fun V6 => some (0, V6)) (n + 1) x T = _ ∧ _
      rw [lp_Mo_findIn_39]
      rcases hc with ⟨c1, c2⟩ | ⟨c1, j, c2, c3, c4, c5, c6⟩
      · rw [if_pos c1]
        subst c2
        exact ⟨T, rfl, h0, hB⟩
      · rw [if_neg (by rw [c1]; decide)]
        refine find47 h hB (Q := fun r => ∃ W, r = some (0, W) ∧ Only [20] M W ∧ MI V (inS V) W) (fun W hO hW => ?_)
        rw [hW.r.gr]
        rw [show j = (j - 1) + 1 by omega] at c5
        simp only [rnds] at c5
        cases hg : (go4 V B).2 with
        | false =>
          rw [hg] at c5
          simp only at c5
          rw [if_pos b2f]
          exact ih 0 (0, W) (by omega) ⟨h0.trans hO, _, hW, Or.inl ⟨rfl, c5⟩⟩
        | true =>
          rw [hg] at c5
          simp only at c5
          rw [if_neg b2t]
          by_cases cg : V 0 13 = 0
          · rw [if_pos cg]
            rw [c6 cg] at c5
            exact ih 0 (0, W) (by omega) ⟨h0.trans hO, _, hW, Or.inl ⟨rfl, c5⟩⟩
          · rw [if_neg cg]
            have ho := (out_goN (V := V) (A := B) 4).2 hg
            have ho' : out V (go4 V B).1 < out V B := ho
            have := c4 cg
            exact ih j (1, W) (by omega) ⟨h0.trans hO, _, hW, Or.inr ⟨rfl, j - 1, by omega, by omega, fun _ => by omega, c5, fun z => absurd z cg⟩⟩) 26 FU (1, T) (by
      refine ⟨hT, A0 V, hA, Or.inr ⟨rfl, ?_⟩⟩
      unfold inS
      by_cases cg : V 0 13 = 0
      · exact ⟨1, by omega, by omega, fun z => absurd cg z, by rw [if_pos cg], fun _ => rfl⟩
      · refine ⟨25, by omega, by omega, fun _ => Nat.lt_of_le_of_lt (Nat.le_trans (out_le V _) hu1) (by omega), by rw [if_neg cg], fun z => absurd z cg⟩) (by unfold FU; omega)
    exact key
  unfold f_Mo_findIn
  obtain ⟨K, hK⟩ : ∃ K : Sto → RT, (fun V3 => lp_Mo_findIn_39 (fun V6 => some (0, V6)) FU 1 V3) = K := ⟨_, rfl⟩
  rw [hK]
  have hk : ∀ T : Sto, Only [20] M T → MI V (A0 V) T → ∃ W, K T = some (0, W) ∧ Only [20] M W ∧ MI V (inS V) W := by
    rw [← hK]; exact l2
  refine forK (L := lp_Mo_findIn_2 K) (N := (V 1 0).toNatClampNeg) (Inv := fun i W => Only [20] M W ∧ ∀ u, u < i → W 20 u = b2 (A0 V u)) (Q := fun r => ∃ W, r = some (0, W) ∧ Only [20] M W ∧ MI V (inS V) W) (by omega) ?_ ?_ 0 M (Nat.zero_le _) ⟨Only.refl, fun u hu => absurd hu (Nat.not_lt_zero _)⟩
  · rintro n i W hi ⟨w1, w2⟩ ih
    have hrW : RelD V W := hr.only w1 (by decide)
    rw [lp_Mo_findIn_2, hrW.u0, hrW.arc, if_neg (fun z => by have := (le_cnt h.u0 (by omega)).mp z; omega), ib_nI (by omega) (by decide), cI (by omega), nI1]
    simp only [ck_mk, nm_mk]
    by_cases c : V 12 i = -1
    · rw [if_pos c]
      refine ih _ ⟨w1.sw (by decide), fun u hu => ?_⟩
      rw [sw_at]
      by_cases e : u = i
      · rw [if_pos e, e]
        have : A0 V i = true := by unfold A0; simp [hi, c]
        rw [this]; rfl
      · rw [if_neg e]; exact w2 u (by omega)
    · rw [if_neg c]
      refine ih _ ⟨w1.sw (by decide), fun u hu => ?_⟩
      rw [sw_at]
      by_cases e : u = i
      · rw [if_pos e, e]
        have : A0 V i = false := by unfold A0; simp [c]
        rw [this]; rfl
      · rw [if_neg e]; exact w2 u (by omega)
  · rintro n W ⟨w1, w2⟩
    have hrW : RelD V W := hr.only w1 (by decide)
    rw [lp_Mo_findIn_2, hrW.u0, if_pos ((le_cnt h.u0 (by omega)).mpr (Nat.le_refl _))]
    exact hk W w1 ⟨hrW, w2⟩
