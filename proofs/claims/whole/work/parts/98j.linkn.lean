/-! The names' half of a link: class and reference. -/
def flC (S : Sto) (a b c : Int32) : Sto := sw (sw (sw S 0 15 a) 0 16 b) 0 17 c
theorem fails_eq (S : Sto) (a b c : Int32) : f_Ly_fails S a b c = some (0, flC S a b c) := rfl
def moN (M : Sto) : RT :=
  cl (f_Mo_findIn M) fun _ V5 => cl (f_Mo_define V5) fun r5 V6 => if r5 = 0 then some (0, V6) else cl (f_Mo_reach V6) fun r6 V7 => if r6 = 0 then some (0, V7) else some (1, V7)
theorem cl_none {β : Type} (k : Int32 → Sto → Option β) : cl none k = none := rfl
theorem moN_cl {β : Type} (M : Sto) (J : Int32 → Sto → Option β) : (cl (f_Mo_findIn M) fun _ V5 => cl (f_Mo_define V5) fun r5 V6 => if r5 = 0 then J 0 V6 else cl (f_Mo_reach V6) fun r6 V7 => if r6 = 0 then J 0 V7 else J 1 V7) = cl (moN M) J := by
  unfold moN
  cases f_Mo_findIn M with
  | none => rw [cl_none, cl_none, cl_none]
  | some p =>
    obtain ⟨a, V5⟩ := p
    rw [cl_mk, cl_mk]
    cases f_Mo_define V5 with
    | none => rw [cl_none, cl_none, cl_none]
    | some p =>
      obtain ⟨b, V6⟩ := p
      rw [cl_mk, cl_mk]
      by_cases c : b = 0
      · rw [if_pos c, if_pos c, cl_mk]
      · rw [if_neg c, if_neg c]
        cases f_Mo_reach V6 with
        | none => rw [cl_none, cl_none, cl_none]
        | some p =>
          obtain ⟨d, V7⟩ := p
          rw [cl_mk, cl_mk]
          by_cases e : d = 0
          · rw [if_pos e, if_pos e, cl_mk]
          · rw [if_neg e, if_neg e, cl_mk]
theorem Rch_congr {V W X : Sto} {A : Nat → Bool} (h7 : X 37 = W 37) (h8 : X 38 = W 38) (h9 : X 39 = W 39) (h40 : X 40 = W 40) (h41 : X 41 = W 41) (s : Nat) : Rch V A X s ↔ Rch V A W s := by
  unfold Rch rtS entS clo
  rw [dfr_congr h7 h8 h9, h40, h41]
theorem CR_congr {V W X : Sto} {A : Nat → Bool} (h7 : X 37 = W 37) (h8 : X 38 = W 38) (h9 : X 39 = W 39) (h40 : X 40 = W 40) (h41 : X 41 = W 41) (n : Nat) : CR V A X n ↔ CR V A W n := by
  unfold CR
  rw [h40, h41]
  constructor
  · rintro ⟨r, a, b, c⟩
    exact ⟨r, a, (Rch_congr h7 h8 h9 h40 h41 _).mp b, c⟩
  · rintro ⟨r, a, b, c⟩
    exact ⟨r, a, (Rch_congr h7 h8 h9 h40 h41 _).mpr b, c⟩
theorem NS.congr {V W X : Sto} {A : Nat → Bool} (h : NS V A W) (h6 : X 6 = W 6) (h7 : X 37 = W 37) (h8 : X 38 = W 38) (h9 : X 39 = W 39) (h40 : X 40 = W 40) (h41 : X 41 = W 41) (h42 : X 42 = W 42) : NS V A X := by
  refine ⟨h.n.congr h6 h7 h8 h9, fun y hy => ?_, fun y hy => ?_, fun y hy => ?_⟩
  · rw [mng_congr h7 h8 h9, h40]; exact h.m y hy
  · rw [mng_congr h7 h8 h9, h41]; exact h.w y hy
  · rw [mng_congr h7 h8 h9, h42]; exact h.v y hy
theorem NM.congr {V W X M : Sto} (h : NM V W M) (h7 : X 37 = W 37) (h8 : X 38 = W 38) (h9 : X 39 = W 39) : NM V X M := by
  refine ⟨fun n hn => ?_, fun n hn => ?_⟩
  · rw [dfr_congr h7 h8 h9]; exact h.d n hn
  · rw [h7, h9]; exact h.c n hn
/-- names are settled, and what is reached is found, in both -/
def NQ (V S M : Sto) : Prop :=
  (Dat V S) ∧
  (OrdQ V S) ∧
  (∀ u, u < (V 1 0).toNatClampNeg → S 13 u = b2 (inS V u)) ∧
  (NS V (inS V) S) ∧
  (RS V (inS V) S S) ∧
  (MB V (inS V) S M) ∧
  (RM V S M) ∧
  (∀ s, s < (V 2 0).toNatClampNeg → M 26 s = nI s) ∧
  (S 0 = V 0) ∧
  (∀ r, r < (V 4 0).toNatClampNeg → S 43 (sec V r) = 1 → ¬ S 40 (dY V r) = 0)
theorem NQ.d {V S M : Sto} (h : NQ V S M) : Dat V S := h.1
theorem NQ.o {V S M : Sto} (h : NQ V S M) : OrdQ V S := h.2.1
theorem NQ.i {V S M : Sto} (h : NQ V S M) : ∀ u, u < (V 1 0).toNatClampNeg → S 13 u = b2 (inS V u) := h.2.2.1
theorem NQ.n {V S M : Sto} (h : NQ V S M) : NS V (inS V) S := h.2.2.2.1
theorem NQ.r {V S M : Sto} (h : NQ V S M) : RS V (inS V) S S := h.2.2.2.2.1
theorem NQ.m {V S M : Sto} (h : NQ V S M) : MB V (inS V) S M := h.2.2.2.2.2.1
theorem NQ.q {V S M : Sto} (h : NQ V S M) : RM V S M := h.2.2.2.2.2.2.1
theorem NQ.l {V S M : Sto} (h : NQ V S M) : ∀ s, s < (V 2 0).toNatClampNeg → M 26 s = nI s := h.2.2.2.2.2.2.2.1
theorem NQ.e {V S M : Sto} (h : NQ V S M) : S 0 = V 0 := h.2.2.2.2.2.2.2.2.1
theorem NQ.z {V S M : Sto} (h : NQ V S M) : ∀ r, r < (V 4 0).toNatClampNeg → S 43 (sec V r) = 1 → ¬ S 40 (dY V r) = 0 := h.2.2.2.2.2.2.2.2.2
theorem optI_some (r : Nat) : optI (some r) = nI r := rfl
theorem optI_none : optI none = -1 := rfl
theorem names_out {V M : Sto} (h : WF V) (hr : RelD V M) : (∃ S N a b c, f_Ly_linksNames V = some (0, flC S a b c) ∧ (Dat V S ∧ S 0 = V 0) ∧ moN M = some (0, flM N a b c) ∧ Only [20, 21, 22, 23, 25, 26] M N) ∨ ∃ S N, f_Ly_linksNames V = some (1, S) ∧ moN M = some (1, N) ∧ NQ V S N ∧ Only [20, 21, 22, 23, 25, 26] M N := by
  have hr1 := h.r1
  have hy1 := h.y1
  obtain ⟨S1, s1, hO⟩ := order_eq h
  have hd1 : Dat V S1 := Dat.refl.only hO.o (by decide)
  obtain ⟨S2, s2, o2, c2⟩ := bringIn_eq h hd1
  have hd2 : Dat V S2 := hd1.only o2 (by decide)
  obtain ⟨S3, s3, o3, n3⟩ := settle_eq (A := inS V) h hd2 c2.u
  have hd3 : Dat V S3 := hd2.only o3 (by decide)
  have hq3 : OrdQ V S3 := hO.q.keep (by rw [o3 32 (by decide), o2 32 (by decide)]) (by rw [o3 33 (by decide), o2 33 (by decide)])
  have hin3 : ∀ u, u < (V 1 0).toNatClampNeg → S3 13 u = b2 (inS V u) := fun u hu => by rw [o3 13 (by decide)]; exact c2.u u hu
  obtain ⟨M1, m1, p1, i1⟩ := findIn_eq h hr
  obtain ⟨M2, p2, hdef⟩ := define_eq (W := S3) h i1 n3.n
  have z1 : S1 0 = V 0 := hO.o 0 (by decide)
  have z2 : S2 0 = V 0 := by rw [o2 0 (by decide), z1]
  have e0 : S3 0 = V 0 := by rw [o3 0 (by decide), z2]
  have t12 : Only [20, 21, 22, 23, 25, 26] M M2 := (p1.mono (by decide)).trans (p2.mono (by decide))
  unfold f_Ly_linksNames moN
  rw [s1, cl_mk, z1, s2, cl_mk, s3, cl_mk, m1, cl_mk]
  rcases hdef with ⟨d1, d2, d3⟩ | ⟨d1, d2⟩
  · -- no name twice
    rw [if_pos d1, d2, cl_mk, if_neg (show ¬ (1 : Int32) = 0 by decide), e0]
    have hMB : MB V (inS V) S3 M2 := ⟨i1.r.only p2 (by decide), d3, fun u hu => by rw [p2 20 (by decide)]; exact i1.u u hu⟩
    have hF : MFs V (inS V) S3 := fun y hy hA => (mean_eq h n3 hMB.n hMB.r hy hA).2
    -- the rest, once the entry is known
    have rest : entMiss V S3 = false → ∀ F : RT, F = (cl (f_Rc_spread S3 (entS V S3)) fun r5 V6 => cl (f_Rc_firstMissing V6) fun r6 V7 => if r6 = (-1) then some (1, V7) else ck (ib r6 600) <| ck (ib (V7 30 r6.toNatClampNeg) 400) <| cl (f_Ly_fails V7 2 (V7 22 (V7 30 r6.toNatClampNeg).toNatClampNeg) r6) fun r7 V8 => ck (bb r7) <| some (r7, V8)) → (∃ S N a b c, F = some (0, flC S a b c) ∧ (Dat V S ∧ S 0 = V 0) ∧ (cl (f_Mo_reach M2) fun r6 V7 => if r6 = 0 then some ((0 : Int32), V7) else some (1, V7)) = some (0, flM N a b c) ∧ Only [20, 21, 22, 23, 25, 26] M N) ∨ ∃ S N, F = some (1, S) ∧ (cl (f_Mo_reach M2) fun r6 V7 => if r6 = 0 then some ((0 : Int32), V7) else some (1, V7)) = some (1, N) ∧ NQ V S N ∧ Only [20, 21, 22, 23, 25, 26] M N := by
      intro hE F hFe
      obtain ⟨S4, s4, o4, r4⟩ := spread_eq h n3.n hF hd3 hq3 rfl rfl hin3
      have hd4 : Dat V S4 := hd3.only o4 (by decide)
      have hq4 : OrdQ V S4 := hq3.keep (o4 32 (by decide)) (o4 33 (by decide))
      obtain ⟨N, q1, q2, q3, q4⟩ := reach_go h n3 r4 (o4 40 (by decide)) hMB hE
      have hON : Only [20, 21, 22, 23, 25, 26] M N := t12.trans (q1.mono (by decide))
      rw [hFe, s4, cl_mk, firstMissing_eq h hd4 hq4 r4, cl_mk, q4]
      unfold fnd
      cases hf : (ord V).find? (misP S4 V) with
      | some r =>
        refine Or.inl ?_
        have hrl := (ord_mem (List.mem_of_find?_eq_some hf)).1
        obtain ⟨yl, yu, ye⟩ := dY_lt h hrl
        rw [optI_some]
        rw [if_neg (m1_ne r (by omega)), ib_nI (show r < 600 by omega) (by decide), ck_mk, cI (show r < 2 ^ 31 by omega), hd4 30 rfl, ye, ib_nI (show dY V r < 400 by omega) (by decide), ck_mk, cI (show dY V r < 2 ^ 31 by omega), hd4 22 rfl, fails_eq, cl_mk, cl_mk]
        exact ⟨S4, N, 2, V 22 (dY V r), nI r, rfl, ⟨hd4, by rw [o4 0 (by decide), e0]⟩, rfl, hON⟩
      | none =>
        refine Or.inr ?_
        rw [optI_none]
        rw [if_pos rfl, cl_mk, if_neg (show ¬ (1 : Int32) = 0 by decide)]
        have e37 := o4 37 (by decide)
        have e38 := o4 38 (by decide)
        have e39 := o4 39 (by decide)
        have e40 := o4 40 (by decide)
        have e41 := o4 41 (by decide)
        refine ⟨S4, N, rfl, rfl, ⟨hd4, hq4, fun u hu => by rw [o4 13 (by decide)]; exact hin3 u hu, n3.congr (o4 6 (by decide)) e37 e38 e39 e40 e41 (o4 42 (by decide)), ⟨fun s hs => ?_, fun n hn => ?_, r4.f⟩, ?_, q2, q3, by rw [o4 0 (by decide), e0], fun r hrl hre => ?_⟩, hON⟩
        · rw [Rch_congr e37 e38 e39 e40 e41]; exact r4.r s hs
        · rw [CR_congr e37 e38 e39 e40 e41]; exact r4.c n hn
        · have hb := hMB.only q1 (by decide)
          exact ⟨hb.r, hb.n.congr e37 e38 e39, hb.u⟩
        · intro z
          have := List.find?_eq_none.mp hf r (mem_ord h hrl)
          unfold misP at this
          rw [decide_eq_true hre, decide_eq_true z] at this
          exact this rfl
    by_cases c : V 0 11 = -1
    · rw [if_pos c]
      simp only [jn_mk]
      rw [if_pos c]
      have hE : entS V S3 = -1 := by unfold entS; rw [if_pos c]
      exact rest (by unfold entMiss; rw [decide_eq_true c]; rfl) _ (by rw [hE])
    · rw [if_neg c]
      have hib := h.en.resolve_left c
      have hnl := ib_lt hib
      have en : V 0 11 = nI ((V 0 11).toNatClampNeg) := ib_eq hib
      have hdef : f_Na_isDefined S3 (V 0 11) = some (b2 (icm S3 ((V 0 11).toNatClampNeg) || !decide (dfr S3 ((V 0 11).toNatClampNeg) = -1)), S3) := by
        have := isDefined_eq (W := S3) hnl
        rw [← en] at this
        exact this
      have hsec : f_Na_sectionOf S3 (V 0 11) = some (entS V S3, S3) := by
        have hh := sectionOfC_eq (W := S3) hnl (by
          rcases n3.n.dfrO (by omega) hnl with d | ⟨d, g1, g2, -⟩
          · exact Or.inl d
          · rw [g2]; exact Or.inr (ib_nI (by omega) (by decide)))
        rw [← en] at hh
        rw [hh]
        unfold entS
        rw [if_neg c, hd3 25 rfl]
      rw [hdef]
      simp only [cl_mk, jn_mk]
      cases hb : (icm S3 ((V 0 11).toNatClampNeg) || !decide (dfr S3 ((V 0 11).toNatClampNeg) = -1)) with
      | false =>
        have hE : entMiss V S3 = true := by unfold entMiss; rw [decide_eq_false c, hb]; rfl
        obtain ⟨N, q1, q2⟩ := reach_miss h n3 hMB hE
        rw [if_pos b2f, e0, fails_eq, cl_mk, q2, cl_mk]
        exact Or.inl ⟨S3, N, 2, V 0 11, -1, rfl, ⟨hd3, e0⟩, rfl, t12.trans (q1.mono (by decide))⟩
      | true =>
        have hE : entMiss V S3 = false := by unfold entMiss; rw [hb, Bool.not_true, Bool.and_false]
        rw [if_neg b2t, e0, if_neg c, hsec, cl_mk]
        exact rest hE _ rfl
  · rw [if_neg d1, d2, cl_mk, if_pos rfl, fails_eq, cl_mk]
    exact Or.inl ⟨S3, M2, 1, S3 6 5, -1, rfl, ⟨hd3, e0⟩, rfl, t12⟩
