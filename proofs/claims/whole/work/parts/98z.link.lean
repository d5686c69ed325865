/-! A link, whole. -/
def moP (N : Sto) : RT := cl (f_Mo_findLike N) fun _ V9 => cl (f_Mo_findIslands V9) fun r8 V10 => if r8 = 0 then some (0, V10) else cl (f_Mo_checkFar V10) fun r9 V11 => if r9 = 0 then some (0, V11) else cl (f_Mo_mend V11) fun r10 V12 => if r10 = 0 then some (0, V12) else some (1, V12)
theorem shape (fI fD fR fL fS fC fE : Sto → RT) (A : Int32 → Sto → RT) (M4 : Sto) : (cl (fI M4) fun r4 V5 => cl (fD V5) fun r5 V6 => jn (fun (z2 : Int32) (V8 : Sto) => jn (fun (z4 : Int32) (V14 : Sto) => A z4 V14) fun j3 => if z2 = 0 then j3 z2 V8 else cl (fL V8) fun r7 V9 => cl (fS V9) fun r8 V10 => jn (fun (z3 : Int32) (V13 : Sto) => j3 z3 V13) fun j4 => if r8 = 0 then j4 0 V10 else cl (fC V10) fun r9 V11 => if r9 = 0 then j4 0 V11 else cl (fE V11) fun r10 V12 => if r10 = 0 then j4 0 V12 else j4 1 V12) fun j2 => if r5 = 0 then j2 0 V6 else cl (fR V6) fun r6 V7 => if r6 = 0 then j2 0 V7 else j2 1 V7) = cl (cl (fI M4) fun _ V5 => cl (fD V5) fun r5 V6 => if r5 = 0 then some (0, V6) else cl (fR V6) fun r6 V7 => if r6 = 0 then some (0, V7) else some (1, V7)) fun z2 V8 => if z2 = 0 then A z2 V8 else cl (cl (fL V8) fun _ V9 => cl (fS V9) fun r8 V10 => if r8 = 0 then some (0, V10) else cl (fC V10) fun r9 V11 => if r9 = 0 then some (0, V11) else cl (fE V11) fun r10 V12 => if r10 = 0 then some (0, V12) else some (1, V12)) A := by
  simp only [jn_mk, i10, if_true, if_false]
  have tail : ∀ V7, (cl (fL V7) fun r7 V9 => cl (fS V9) fun r8 V10 => if r8 = 0 then A 0 V10 else cl (fC V10) fun r9 V11 => if r9 = 0 then A 0 V11 else cl (fE V11) fun r10 V12 => if r10 = 0 then A 0 V12 else A 1 V12) = cl (cl (fL V7) fun _ V9 => cl (fS V9) fun r8 V10 => if r8 = 0 then some (0, V10) else cl (fC V10) fun r9 V11 => if r9 = 0 then some (0, V11) else cl (fE V11) fun r10 V12 => if r10 = 0 then some (0, V12) else some (1, V12)) A := by
    intro V7
    cases fL V7 with
    | none => rfl
    | some q =>
      obtain ⟨a9, V9⟩ := q
      rw [cl_mk, cl_mk]
      cases fS V9 with
      | none => rfl
      | some q =>
        obtain ⟨a10, V10⟩ := q
        rw [cl_mk, cl_mk]
        by_cases d : a10 = 0
        · rw [if_pos d, if_pos d, cl_mk]
        · rw [if_neg d, if_neg d]
          cases fC V10 with
          | none => rfl
          | some q =>
            obtain ⟨a11, V11⟩ := q
            rw [cl_mk, cl_mk]
            by_cases e : a11 = 0
            · rw [if_pos e, if_pos e, cl_mk]
            · rw [if_neg e, if_neg e]
              cases fE V11 with
              | none => rfl
              | some q =>
                obtain ⟨a12, V12⟩ := q
                rw [cl_mk, cl_mk]
                by_cases f : a12 = 0
                · rw [if_pos f, if_pos f, cl_mk]
                · rw [if_neg f, if_neg f, cl_mk]
  cases fI M4 with
  | none => rfl
  | some q =>
    obtain ⟨a5, V5⟩ := q
    rw [cl_mk, cl_mk]
    cases fD V5 with
    | none => rfl
    | some q =>
      obtain ⟨a6, V6⟩ := q
      rw [cl_mk, cl_mk]
      by_cases c : a6 = 0
      · rw [if_pos c, if_pos c, cl_mk, if_pos rfl]
      · rw [if_neg c, if_neg c]
        cases fR V6 with
        | none => rfl
        | some q =>
          obtain ⟨a7, V7⟩ := q
          rw [cl_mk, cl_mk]
          by_cases e : a7 = 0
          · rw [if_pos e, if_pos e, cl_mk, if_pos rfl]
          · rw [if_neg e, if_neg e, cl_mk, if_neg (show ¬ (1 : Int32) = 0 by decide)]
            exact tail V7
theorem laBegin_eq {F : Sto} (p : Int32) : ∃ X, f_La_begin F p = some (0, X) ∧ Only [9, 48, 49] F X ∧ X 9 4 = p ∧ X 9 6 = 0 ∧ (∀ s, s < 96 → X 48 s = -1) ∧ ∀ n, n < 200 → X 49 n = -1 := by
  unfold f_La_begin
  obtain ⟨X1, x1, x2, x3⟩ := fill48_eq (sw (sw F 9 4 p) 9 6 0) (-1)
  obtain ⟨X2, y1, y2, y3⟩ := fill49_eq X1 (-1)
  rw [nm_mk, nm_mk, x1, cl_mk, y1, cl_mk]
  refine ⟨X2, rfl, ?_, ?_, ?_, fun s hs => by rw [y2 48 (by decide)]; exact x3 s hs, y3⟩
  · exact (((Only.refl.sw (by decide)).sw (by decide)).trans (x2.mono (by decide))).trans (y2.mono (by decide))
  · rw [y2 9 (by decide), x2 9 (by decide), sw_at, if_neg (by decide), sw_at, if_pos rfl]
  · rw [y2 9 (by decide), x2 9 (by decide), sw_at, if_pos rfl]
def chk (Y : Sto) (o : Option Nat) : RT := match o with
  | some r => some (0, flM Y 3 (-1) (nI r))
  | none => some (1, Y)
theorem chk_some (Y : Sto) (r : Nat) : chk Y (some r) = some (0, flM Y 3 (-1) (nI r)) := rfl
theorem chk_none (Y : Sto) : chk Y none = some (1, Y) := rfl
theorem checkFar_eq' {V S F X Y : Sto} (h : WF V) (hC : CT V S F) {b c : Nat} (hI : IQ V S F b X Y c) (hn : (ord V).find? (strP V F X) = none) : f_Mo_checkFar Y = chk Y ((ord V).find? (farP V F X)) := by
  rw [checkFar_eq h hC hI hn]
  cases (ord V).find? (farP V F X) <;> rfl
theorem places_out {V S N : Sto} (h : WF V) (hQ : NQ V S N) {b : Nat} (hb : b ≤ 1048576) (hb4 : b % 4 = 0) (h33 : N 0 33 = nI b) : (∃ X Y a d e, f_Ly_linksPlaces S (nI b) = some (0, flC X a d e) ∧ (Dat V X ∧ X 0 = V 0) ∧ moP N = some (0, flM Y a d e) ∧ RelD V Y ∧ Y 0 0 = N 0 0) ∨ ∃ F X Y Z c, f_Ly_linksPlaces S (nI b) = some (1, X) ∧ moP N = some (1, Z) ∧ CT V S F ∧ IQ V S F b X Y c ∧ X 0 = V 0 ∧ Only [29] Y Z ∧ MWs V F X Z ∧ ∀ j, j ∉ [34, 35, 47, 49] → Z 0 j = N 0 j := by
  have hr1 := h.r1
  have hm := hQ.mr h
  obtain ⟨F, f1, f2, f3⟩ := fold_eq h hQ.d hQ.o hm
  have hC := CT.mk' h hQ f2 f3
  obtain ⟨Y0, y1, y2, y3⟩ := findLike_eq h hQ (f2 40 (by decide)) (f2 41 (by decide)) f3
  obtain ⟨X0, x1, x2, x3, x4, x5, x6⟩ := laBegin_eq (F := F) (nI b)
  have hMX : MX V F Y0 := by
    have hb := hQ.m.only y2 (by decide)
    refine ⟨⟨hb.r, hb.n.congr (f2 37 (by decide)) (f2 38 (by decide)) (f2 39 (by decide)), hb.u⟩, ⟨?_, ?_⟩, y3⟩
    · rw [y2 25 (by decide), f2 43 (by decide)]; exact hQ.q.r
    · rw [y2 23 (by decide), f2 44 (by decide)]; exact hQ.q.n
  have e012 : S 0 12 = V 0 12 := by rw [hQ.e]
  have e00 : X0 0 = V 0 := by rw [x2 0 (by decide), f2 0 (by decide), hQ.e]
  have dat : ∀ X, Only LC F X → Dat V X := fun X hX => hC.d.only hX (by decide)
  have hfl : ∀ (X : Sto) (a d e : Int32), (cl (f_Ly_fails X a d e) fun r8 V8 => ck (bb r8) <| some (r8, V8)) = some (0, flC X a d e) := fun X a d e => by rw [fails_eq, cl_mk]; rfl
  unfold f_Ly_linksPlaces moP
  rw [e012, f1, cl_mk, x1, cl_mk, y1, cl_mk]
  rcases islands_eq h hC hb hb4 (x2.mono (by decide)) x3 x4 x5 x6 hMX (by rw [y2 0 (by decide)]; exact h33) with ⟨X, Y, p1, p2, p3, p0, p4, p5⟩ | ⟨X, Y, c, p1, p2, p3, p0, p4, p5⟩
  · rw [p1, cl_mk, if_pos rfl, hfl, p2, cl_mk, if_pos rfl]
    exact Or.inl ⟨X, Y, 4, -1, -1, rfl, ⟨dat X p3, by rw [p0, e00]⟩, rfl, p4.m.r, by rw [p5.j 0 (by decide), y2 0 (by decide)]⟩
  · rw [p1, cl_mk, if_neg (show ¬ (1 : Int32) = 0 by decide), firstFar_eq h hC p3.x, cl_mk, p2, cl_mk, if_neg (show ¬ (1 : Int32) = 0 by decide), checkFar_eq' h hC p3 p5]
    unfold fnd
    cases hf : (ord V).find? (farP V F X) with
    | some r =>
      have hrl := (ord_mem (List.mem_of_find?_eq_some hf)).1
      rw [optI_some, if_neg (m1_ne r (by omega)), hfl, chk_some, cl_mk, if_pos rfl]
      exact Or.inl ⟨X, Y, 3, -1, nI r, rfl, ⟨dat X p3.x, by rw [p0, e00]⟩, rfl, p3.y.m.r, by rw [p4.j 0 (by decide), y2 0 (by decide)]⟩
    | none =>
      rw [optI_none, if_pos rfl, firstJump_eq h hC p3.x, cl_mk]
      obtain ⟨Z, z1, z2⟩ := mend_all h hC p3
      have hZ : MX V F Z := p3.y.only z1 (by decide)
      unfold fnd
      rcases z2 with ⟨r, r1, r2⟩ | ⟨r1, r2, r3⟩
      · have hrl := (ord_mem (List.mem_of_find?_eq_some r1)).1
        rw [r1, optI_some, if_neg (m1_ne r (by omega)), hfl]
        refine Or.inl ⟨X, Z, 5, -1, nI r, rfl, ⟨dat X p3.x, by rw [p0, e00]⟩, ?_, hZ.m.r, by rw [z1 0 (by decide), p4.j 0 (by decide), y2 0 (by decide)]⟩
        rw [chk_none, cl_mk, if_neg (show ¬ (1 : Int32) = 0 by decide), r2, cl_mk, if_pos rfl]
      · rw [r1, optI_none, if_pos rfl]
        refine Or.inr ⟨F, X, Y, Z, c, rfl, ?_, hC, p3, by rw [p0, e00], z1, r3, fun j hj => ?_⟩
        · rw [chk_none, cl_mk, if_neg (show ¬ (1 : Int32) = 0 by decide), r2, cl_mk, if_neg (show ¬ (1 : Int32) = 0 by decide)]
        · rw [z1 0 (by decide), p4.j j hj, y2 0 (by decide)]
theorem tgC_congr {V X W : Sto} (h : ∀ q, q ≠ 0 → W q = X q) (r : Nat) : tgC V W r = tgC V X r := by
  unfold tgC adO stO
  rw [h 40 (by decide), h 41 (by decide), h 42 (by decide), h 48 (by decide), h 49 (by decide)]
theorem plC_congr {V X W : Sto} (h : ∀ q, q ≠ 0 → W q = X q) (r : Nat) : plC V W r = plC V X r := by
  unfold plC
  rw [h 48 (by decide)]
theorem gl_congr {V X W : Sto} (h : ∀ q, q ≠ 0 → W q = X q) (r : Nat) : gl V W r = gl V X r := by
  unfold gl
  rw [tgC_congr h, h 53 (by decide), h 9 (by decide)]
theorem mwd_congr {V X W : Sto} (h : ∀ q, q ≠ 0 → W q = X q) (l : List Nat) (p w : Int32) : mwd V W l p w = mwd V X l p w := by
  have e : (fun (w : Int32) (r : Nat) => if V 28 r = p then mdv V W w r else w) = fun (w : Int32) (r : Nat) => if V 28 r = p then mdv V X w r else w := by
    funext w r
    unfold mdv
    rw [tgC_congr h, plC_congr h, gl_congr h]
  unfold mwd
  rw [e]
theorem MX.agree {V F Z M : Sto} (h : MX V F Z) (hn : ∀ q, q ≠ 0 → M q = Z q) (hj : ∀ j, j ∉ [0, 29, 30, 31, 32] → M 0 j = Z 0 j) : MX V F M := by
  refine ⟨⟨?_, ⟨?_, ?_⟩, ?_⟩, ⟨?_, ?_⟩, ?_⟩
  · have hr := h.m.r
    unfold RelD at hr ⊢
    rw [hj 1 (by decide), hj 3 (by decide), hj 10 (by decide), hj 11 (by decide), hj 13 (by decide), hj 20 (by decide), hj 26 (by decide), hj 27 (by decide), hj 28 (by decide), hn 1 (by decide), hn 2 (by decide), hn 3 (by decide), hn 4 (by decide), hn 5 (by decide), hn 6 (by decide), hn 7 (by decide), hn 8 (by decide), hn 9 (by decide), hn 10 (by decide), hn 11 (by decide), hn 12 (by decide), hn 13 (by decide), hn 14 (by decide), hn 15 (by decide), hn 16 (by decide), hn 17 (by decide), hn 18 (by decide), hn 19 (by decide)]
    exact hr
  · rw [hn 21 (by decide)]; exact h.m.n.d
  · rw [hn 22 (by decide)]; exact h.m.n.c
  · rw [hn 20 (by decide)]; exact h.m.u
  · rw [hn 25 (by decide)]; exact h.q.r
  · rw [hn 23 (by decide)]; exact h.q.n
  · rw [hn 26 (by decide)]; exact h.l
theorem IQ.agree {V S F X Y Z W M : Sto} {b c : Nat} (h : IQ V S F b X Y c) (hZ : Only [29] Y Z) (hv : ∀ q, q ≠ 0 → W q = X q) (hn : ∀ q, q ≠ 0 → M q = Z q) (hj : ∀ j, j ∉ [0, 29, 30, 31, 32] → M 0 j = Z 0 j) : IQ V S F b W M c := by
  have z0 : Z 0 = Y 0 := hZ 0 (by decide)
  have hMZ : MX V F Z := h.y.only hZ (by decide)
  refine ⟨fun q hq => ?_, hMZ.agree hn hj, ⟨h.i.hc, ?_, ?_, ?_, ?_, ?_⟩, ⟨?_, ?_, ?_, ?_, ?_⟩, ⟨?_, fun z => ?_, ?_, ?_, ?_⟩, ?_, ?_, ?_⟩
  · have hq0 : q ≠ 0 := fun e => hq (by rw [e]; decide)
    rw [hv q hq0]
    exact h.x q hq
  · rw [hv 10 (by decide)]; exact h.i.xc
  · rw [hj 47 (by decide), z0]; exact h.i.yc
  · rw [hn 30 (by decide), hZ 30 (by decide), hv 53 (by decide)]; exact h.i.is
  · rw [hn 31 (by decide), hZ 31 (by decide), hv 50 (by decide), hv 51 (by decide), hv 52 (by decide)]; exact h.i.tg
  · have : gcnt V W = gcnt V X := by unfold gcnt; rw [hv 53 (by decide)]
    rw [hv 10 (by decide), this]; exact h.i.go
  · rw [hv 9 (by decide)]; exact h.l.e
  · rw [hv 9 (by decide)]; exact h.l.i
  · rw [hv 48 (by decide)]; exact h.l.a
  · rw [hv 49 (by decide)]; exact h.l.n
  · rw [hv 9 (by decide)]; exact h.l.b
  · rw [hj 34 (by decide), z0]; exact h.m.e
  · rw [hj 49 (by decide), z0]; exact h.m.i z
  · rw [hn 27 (by decide), hZ 27 (by decide)]; exact h.m.a
  · rw [hn 24 (by decide), hZ 24 (by decide)]; exact h.m.n
  · rw [hj 33 (by decide), z0]; exact h.m.b
  · rw [hj 35 (by decide), z0, hv 9 (by decide)]; exact h.t
  · rw [hv 48 (by decide)]; exact h.u
  · rw [hv 49 (by decide)]; exact h.v
def Lq (V M V1 S F : Sto) (b c : Nat) : Prop :=
  (WF V1) ∧
  (CT V1 S F) ∧
  (IQ V1 S F b V M c) ∧
  (MWs V1 F V M) ∧
  (b ≤ 1048576 ∧ b % 4 = 0) ∧
  (∀ u, u < (V1 1 0).toNatClampNeg → V 13 u = b2 (inS V1 u)) ∧
  (V 7 6 = nI (cnt V)) ∧
  (∀ q, q ≠ 0 → lk q = false → V q = V1 q)
theorem Lq.w {V M V1 S F : Sto} {b c : Nat} (h : Lq V M V1 S F b c) : WF V1 := h.1
theorem Lq.t {V M V1 S F : Sto} {b c : Nat} (h : Lq V M V1 S F b c) : CT V1 S F := h.2.1
theorem Lq.q {V M V1 S F : Sto} {b c : Nat} (h : Lq V M V1 S F b c) : IQ V1 S F b V M c := h.2.2.1
theorem Lq.m {V M V1 S F : Sto} {b c : Nat} (h : Lq V M V1 S F b c) : MWs V1 F V M := h.2.2.2.1
theorem Lq.b {V M V1 S F : Sto} {b c : Nat} (h : Lq V M V1 S F b c) : b ≤ 1048576 ∧ b % 4 = 0 := h.2.2.2.2.1
theorem Lq.i {V M V1 S F : Sto} {b c : Nat} (h : Lq V M V1 S F b c) : ∀ u, u < (V1 1 0).toNatClampNeg → V 13 u = b2 (inS V1 u) := h.2.2.2.2.2.1
theorem Lq.f {V M V1 S F : Sto} {b c : Nat} (h : Lq V M V1 S F b c) : V 7 6 = nI (cnt V) := h.2.2.2.2.2.2.1
theorem Lq.e {V M V1 S F : Sto} {b c : Nat} (h : Lq V M V1 S F b c) : ∀ q, q ≠ 0 → lk q = false → V q = V1 q := h.2.2.2.2.2.2.2
def Lkd (V M : Sto) : Prop := ∃ V1 S F b c, Lq V M V1 S F b c
def Iv (V M : Sto) : Prop :=
  (WF V) ∧
  (RelD V M) ∧
  (RelF V M) ∧
  (V 0 14 = 1 → Lkd V M)
theorem Iv.w {V M : Sto} (h : Iv V M) : WF V := h.1
theorem Iv.d {V M : Sto} (h : Iv V M) : RelD V M := h.2.1
theorem Iv.f {V M : Sto} (h : Iv V M) : RelF V M := h.2.2.1
theorem Iv.l {V M : Sto} (h : Iv V M) : V 0 14 = 1 → Lkd V M := h.2.2.2
theorem Lq.thr {V M V1 S F : Sto} {b c : Nat} (h : Lq V M V1 S F b c) (k : Int32) : Lq V (sw M 0 0 k) V1 S F b c := by
  refine ⟨h.w, h.t, h.q.agree Only.refl (fun q _ => rfl) (fun q hq => sw_ne hq) (fun j hj => ?_), ?_, h.b, h.i, h.f, h.e⟩
  · simp at hj
    rw [sw_at, if_neg hj.1]
  · intro t ht a d k hk
    rw [sw_ne (by decide)]
    exact h.m t ht a d k hk
theorem Lkd.thr {V M : Sto} (h : Lkd V M) (k : Int32) : Lkd V (sw M 0 0 k) := by
  obtain ⟨V1, S, F, b, c, h⟩ := h
  exact ⟨V1, S, F, b, c, h.thr k⟩
theorem Iv.thr {V M : Sto} (h : Iv V M) (k : Int32) : Iv V (sw M 0 0 k) := ⟨h.w, h.d.thr k, h.f.thr k, fun z => (h.l z).thr k⟩
theorem Iv.ti : TI Iv := fun V M h => ⟨h.wf, h.rd, h.rf, fun z => by rw [h.nl] at z; exact absurd z (by decide)⟩
theorem RelD.vcong {V W M : Sto} (h : RelD V M) (hd : ∀ q, q ≠ 0 → lk q = false → W q = V q) (h11 : W 0 11 = V 0 11) (h12 : W 0 12 = V 0 12) (h13 : W 0 13 = V 0 13) : RelD W M := by
  unfold RelD at h ⊢
  rw [hd 1 (by decide) rfl, hd 2 (by decide) rfl, hd 3 (by decide) rfl, hd 4 (by decide) rfl, hd 12 (by decide) rfl, hd 14 (by decide) rfl, hd 15 (by decide) rfl, hd 16 (by decide) rfl, hd 17 (by decide) rfl, hd 18 (by decide) rfl, hd 19 (by decide) rfl, hd 20 (by decide) rfl, hd 21 (by decide) rfl, hd 22 (by decide) rfl, hd 23 (by decide) rfl, hd 24 (by decide) rfl, hd 25 (by decide) rfl, hd 26 (by decide) rfl, hd 27 (by decide) rfl, hd 28 (by decide) rfl, hd 29 (by decide) rfl, hd 30 (by decide) rfl, hd 31 (by decide) rfl, h11, h12, h13]
  exact h
theorem WF.vcong {V W : Sto} (h : WF V) (hd : ∀ q, q ≠ 0 → lk q = false → W q = V q) (h11 : W 0 11 = V 0 11) (h12 : W 0 12 = V 0 12) (h13 : W 0 13 = V 0 13) : WF W := by
  refine h.cong (fun q hq => hd q ?_ ?_) (by rw [h11]; exact h.en) (by rw [h12]; exact h.fo) (by rw [h13]; exact h.gr)
  · rintro rfl; cases hq
  · unfold dcell at hq
    unfold lk
    have := of_decide_eq_true hq
    refine decide_eq_false (fun z => ?_)
    omega
theorem base_ok {p : Int32} (h0 : ¬ p < 0) (h1 : ¬ 1048576 < p) (h2 : p - p / 4096 * 4096 = 0) : ∃ b, p = nI b ∧ b ≤ 1048576 ∧ b % 4 = 0 := by
  obtain ⟨b, b1, b2⟩ := nI_of h0
  subst b2
  have hb : b ≤ 1048576 := by
    rcases Nat.lt_or_ge 1048576 b with c | c
    · exact absurd (show (1048576 : Int32) < nI b from nI_lt (a := 1048576) c b1) h1
    · exact c
  refine ⟨b, rfl, hb, ?_⟩
  have e : nI b - nI b / 4096 * 4096 = nI (b % 4096) := nI_mod (b := 4096) b1 (by omega) (by omega)
  rw [e] at h2
  have := (nI_eq (b := 0) (by omega) (by omega)).mp h2
  omega
theorem op_link {V M : Sto} (h : WF V) (hr : RelD V M) (hthr : ∀ k, Iv V (sw M 0 0 k)) (p : Int32) : StI Iv cs_Lw_link (f_Ly_link V p) (f_Mo_link M p) V 0 := by
  by_cases hg : (0 : Int32) ≤ p ∧ p ≤ 1048576
  · have h0 : ¬ p < 0 := Int32.not_lt.mpr hg.1
    have h1 : ¬ 1048576 < p := Int32.not_lt.mpr hg.2
    by_cases h2 : p - p / 4096 * 4096 = 0
    · obtain ⟨b, rfl, hb, hb4⟩ := base_ok h0 h1 h2
      -- both start
      obtain ⟨V1, hV1⟩ : ∃ V1, tla V = V1 := ⟨_, rfl⟩
      obtain ⟨M4, hM4⟩ : ∃ M4, sw (tld (sw M 0 0 0)) 0 33 (nI b) = M4 := ⟨_, rfl⟩
      have hw : WF V1 := by rw [← hV1]; exact h.tla
      have hrd : RelD V1 M4 := by rw [← hV1, ← hM4]; exact ((hr.thr 0).tld).c0 (by decide)
      have v14 : V1 0 14 = 0 := by rw [← hV1, tla_0]; rfl
      have v15 : V1 0 15 = 0 := by rw [← hV1, tla_0]; rfl
      have v16 : V1 0 16 = -1 := by rw [← hV1, tla_0]; rfl
      have v17 : V1 0 17 = -1 := by rw [← hV1, tla_0]; rfl
      have m0 : M4 0 0 = 0 := by rw [← hM4, sw_at, if_neg (by decide), tld_0, sw_at]; rfl
      have m30 : M4 0 30 = 0 := by rw [← hM4, sw_at, if_neg (by decide), tld_0]; rfl
      have m31 : M4 0 31 = -1 := by rw [← hM4, sw_at, if_neg (by decide), tld_0]; rfl
      have m32 : M4 0 32 = -1 := by rw [← hM4, sw_at, if_neg (by decide), tld_0]; rfl
      have m33 : M4 0 33 = nI b := by rw [← hM4, sw_at, if_pos rfl]
      have p1000 : V1 1000 = V 1000 := by rw [← hV1]; exact tla_o V (by decide)
      have eC : f_Ly_link V (nI b) = cl (f_Ly_linksNames V1) fun r2 V2 => jn (fun (z1 : Int32) (V4 : Sto) => ck (bb z1) <| nm (sw V4 0 14 z1) fun V5 => if (V5 0 14) = 0 then some (.inl (-1), V5) else some (.inl ((V5 9 5) - nI b), V5)) fun j1 => if r2 = 0 then j1 0 V2 else cl (f_Ly_linksPlaces V2 (nI b)) fun r3 V3 => if r3 = 0 then j1 0 V3 else j1 1 V3 := by
        unfold f_Ly_link
        rw [if_neg h0, if_neg h1, if_pos h2, tla_eq, cl_mk, hV1]
      have eM : f_Mo_link M (nI b) = cl (moN M4) fun z2 V8 => if z2 = 0 then (ck (bb z2) <| nm (sw V8 0 29 z2) fun V15 => if z2 = 0 then some ((-1), V15) else some ((V15 0 34) - (V15 0 33), V15)) else cl (moP V8) fun z4 V14 => ck (bb z4) <| nm (sw V14 0 29 z4) fun V15 => if z4 = 0 then some ((-1), V15) else some ((V15 0 34) - (V15 0 33), V15) := by
        unfold f_Mo_link
        rw [within_eq, if_pos hg, cl_mk, jn_mk, if_neg (show ¬ (1 : Int32) = 0 by decide), if_pos h2]
        show (cl (f_Mo_refuse M 0 0) fun r2 V2 => _) = _
        rw [refuse_00, cl_mk, if_pos rfl, tld_eq, cl_mk, nm_mk, hM4]
        exact shape f_Mo_findIn f_Mo_define f_Mo_reach f_Mo_findLike f_Mo_findIslands f_Mo_checkFar f_Mo_mend (fun z4 V14 => ck (bb z4) <| nm (sw V14 0 29 z4) fun V15 => if z4 = 0 then some ((-1), V15) else some ((V15 0 34) - (V15 0 33), V15)) M4
      -- a fault
      have bad : ∀ (X Y : Sto) (a d e : Int32), Dat V1 X → RelD V1 Y → Y 0 0 = 0 → X 0 = V1 0 → f_Ly_link V (nI b) = some (.inl (-1), sw (flC X a d e) 0 14 0) → f_Mo_link M (nI b) = some (-1, sw (flM Y a d e) 0 29 0) → StI Iv cs_Lw_link (f_Ly_link V (nI b)) (f_Mo_link M (nI b)) V 0 := by
        intro X Y a d e hX hY y0 x0 q1 q2
        have c0 : ∀ q, q ≠ 0 → sw (flC X a d e) 0 14 0 q = X q := fun q hq => by unfold flC; rw [sw_ne hq, sw_ne hq, sw_ne hq, sw_ne hq]
        have c1 : ∀ j, sw (flC X a d e) 0 14 0 0 j = if j = 14 then 0 else if j = 17 then e else if j = 16 then d else if j = 15 then a else X 0 j := fun j => by unfold flC; simp only [sw_at]
        have c2 : ∀ j, sw (flM Y a d e) 0 29 0 0 j = if j = 29 then 0 else if j = 32 then e else if j = 31 then d else if j = 30 then a else Y 0 j := fun j => by unfold flM; simp only [sw_at]
        have hd : ∀ q, q ≠ 0 → lk q = false → sw (flC X a d e) 0 14 0 q = V1 q := fun q hq hl => by rw [c0 q hq]; exact hX q hl
        have e11 : sw (flC X a d e) 0 14 0 0 11 = V1 0 11 := by rw [c1, x0]; rfl
        have e12 : sw (flC X a d e) 0 14 0 0 12 = V1 0 12 := by rw [c1, x0]; rfl
        have e13 : sw (flC X a d e) 0 14 0 0 13 = V1 0 13 := by rw [c1, x0]; rfl
        have hI : Iv (sw (flC X a d e) 0 14 0) (sw (flM Y a d e) 0 29 0) := by
          refine Iv.ti _ _ ⟨hw.vcong hd e11 e12 e13, ?_, ⟨?_, ?_, ?_, ?_, ?_⟩, ?_⟩
          · refine RelD.vcong (V := V1) ?_ hd e11 e12 e13
            unfold flM
            exact (((hY.c0 (by decide)).c0 (by decide)).c0 (by decide)).c0 (by decide)
          · rw [c1, c2]; rfl
          · rw [c1, c2]; rfl
          · rw [c1, c2]; rfl
          · rw [c1, c2]; rfl
          · rw [c1]; rfl
          · rw [c1]; rfl
        refine ⟨0, -1, _, -1, _, Or.inl ⟨q1, rfl⟩, q2, by rw [c2]; exact y0, fun _ => rfl, hI, ?_⟩
        have hph : phi (sw (flC X a d e) 0 14 0) = phi V := phi_eq (by rw [c0 1000 (by decide), hX 1000 rfl, p1000])
        rw [hph, Nat.zero_add]
        exact Nat.le_refl _
      rcases names_out hw hrd with ⟨S, N, a, d, e, n1, n2, n3, n4⟩ | ⟨S, N, n1, n2, n3, n4⟩
      · refine bad S N a d e n2.1 (hrd.only n4 (by decide)) (by rw [n4 0 (by decide)]; exact m0) n2.2 ?_ ?_
        · rw [eC, n1, cl_mk, jn_mk, if_pos rfl]
          rfl
        · rw [eM, n3, cl_mk, if_pos rfl]
          rfl
      · have n33 : N 0 33 = nI b := by rw [n4 0 (by decide)]; exact m33
        rcases places_out hw n3 hb hb4 n33 with ⟨X, Y, a, d, e, q1, q2, q3, q4, q5⟩ | ⟨F, X, Y, Z, c, q1, q2, q3, q4, q8, q5, q6, q7⟩
        · refine bad X Y a d e q2.1 q4 ?_ q2.2 ?_ ?_
          · rw [q5, n4 0 (by decide)]; exact m0
          · rw [eC, n1, cl_mk, jn_mk, if_neg (show ¬ (1 : Int32) = 0 by decide), q1, cl_mk, if_pos rfl]
            rfl
          · rw [eM, n2, cl_mk, if_neg (show ¬ (1 : Int32) = 0 by decide), q3, cl_mk]
            rfl
        · have xo : Only LC F X := q4.x
          have xd : Dat V1 X := q3.d.only xo (by decide)
          have x0 : X 0 = V1 0 := q8
          have zj : ∀ j, j ∉ [34, 35, 47, 49] → Z 0 j = M4 0 j := fun j hj => by rw [q7 j hj, n4 0 (by decide)]
          have z33 : Z 0 33 = nI b := by rw [zj 33 (by decide)]; exact m33
          have z34 : Z 0 34 = X 9 5 := by rw [q5 0 (by decide), q4.m.e, q4.l.e]
          have c1 : ∀ j, sw X 0 14 1 0 j = if j = 14 then 1 else V1 0 j := fun j => by rw [sw_at, x0]
          have c2 : ∀ j, sw Z 0 29 1 0 j = if j = 29 then 1 else Z 0 j := fun j => sw_at _ _ _ _ _
          have hd : ∀ q, q ≠ 0 → lk q = false → sw X 0 14 1 q = V1 q := fun q hq hl => by rw [sw_ne hq]; exact xd q hl
          have e11 : sw X 0 14 1 0 11 = V1 0 11 := by rw [c1]; rfl
          have e12 : sw X 0 14 1 0 12 = V1 0 12 := by rw [c1]; rfl
          have e13 : sw X 0 14 1 0 13 = V1 0 13 := by rw [c1]; rfl
          have hMZ : MX V1 F Z := q4.y.only q5 (by decide)
          have hI : Iv (sw X 0 14 1) (sw Z 0 29 1) := by
            refine ⟨hw.vcong hd e11 e12 e13, RelD.vcong (V := V1) (hMZ.m.r.c0 (by decide)) hd e11 e12 e13, ⟨?_, ?_, ?_, ?_, ?_⟩, fun _ => ⟨V1, S, F, b, c, hw, q3, q4.agree q5 (fun q hq => sw_ne hq) (fun q hq => sw_ne hq) (fun j hj => ?_), ?_, ⟨hb, hb4⟩, ?_, ?_, hd⟩⟩
            · rw [c1, c2]; rfl
            · rw [c1, c2]; show Z 0 30 = V1 0 15; rw [zj 30 (by decide), m30, v15]
            · rw [c1, c2]; show Z 0 31 = V1 0 16; rw [zj 31 (by decide), m31, v16]
            · rw [c1, c2]; show Z 0 32 = V1 0 17; rw [zj 32 (by decide), m32, v17]
            · rw [c1]; rfl
            · simp at hj
              rw [c2, if_neg hj.2.1]
            · intro t ht x y k hk
              rw [sw_ne (by decide), mwd_congr (fun q hq => sw_ne hq)]
              exact q6 t ht x y k hk
            · intro u hu
              rw [sw_ne (by decide), xo 13 (by decide), q3.s 13 (by decide)]
              exact n3.i u hu
            · have e43 : X 43 = S 43 := by rw [xo 43 (by decide), q3.s 43 (by decide)]
              have ec : cnt (sw X 0 14 1) = cnt S := by unfold cnt; rw [sw_ne (show (43 : Nat) ≠ 0 by decide), e43]
              rw [sw_ne (show (7 : Nat) ≠ 0 by decide), xo 7 (by decide), q3.s 7 (by decide), ec]
              exact n3.r.f
          refine ⟨0, X 9 5 - nI b, sw X 0 14 1, X 9 5 - nI b, sw Z 0 29 1, Or.inl ⟨?_, rfl⟩, ?_, ?_, fun _ => rfl, hI, ?_⟩
          · rw [eC, n1, cl_mk, jn_mk, if_neg (show ¬ (1 : Int32) = 0 by decide), q1, cl_mk, if_neg (show ¬ (1 : Int32) = 0 by decide)]
            show (ck (bb 1) <| nm (sw X 0 14 1) fun V5 => if (V5 0 14) = 0 then (some (Sum.inl (-1), V5) : RTT) else some (Sum.inl ((V5 9 5) - nI b), V5)) = _
            rw [show bb 1 = true from rfl, ck_mk, nm_mk, sw_at, if_pos rfl, if_neg (show ¬ (1 : Int32) = 0 by decide), sw_ne (show (9 : Nat) ≠ 0 by decide)]
          · rw [eM, n2, cl_mk, if_neg (show ¬ (1 : Int32) = 0 by decide), q2, cl_mk, show bb 1 = true from rfl, ck_mk, nm_mk, if_neg (show ¬ (1 : Int32) = 0 by decide), c2, c2, if_neg (show ¬ 34 = 29 by decide), if_neg (show ¬ 33 = 29 by decide), z33, z34]
          · rw [c2, if_neg (by decide), zj 0 (by decide)]; exact m0
          · have hph : phi (sw X 0 14 1) = phi V := phi_eq (by rw [sw_ne (by decide), xd 1000 rfl, p1000])
            rw [hph, Nat.zero_add]
            exact Nat.le_refl _
    · refine st_thr (V := V) (M := M) (e := 0) (k := 1) (b := 0) ?_ (by decide) (by decide) ?_ (hthr 1)
      · unfold f_Ly_link
        rw [if_neg h0, if_neg h1, if_neg h2]
      · unfold f_Mo_link
        rw [within_eq, if_pos hg, cl_mk, jn_mk, if_neg (show ¬ (1 : Int32) = 0 by decide), if_neg h2]
        show (cl (f_Mo_refuse M 1 0) fun r2 V2 => _) = _
        rw [refuse_10, cl_mk, if_neg (show ¬ (1 : Int32) = 0 by decide)]
  · refine st_thr (V := V) (M := M) (e := 0) (k := 1) (b := 0) ?_ (by decide) (by decide) ?_ (hthr 1)
    · unfold f_Ly_link
      by_cases h0 : p < 0
      · rw [if_pos h0]
      · rw [if_neg h0, if_pos]
        rcases Int32.lt_or_le 1048576 p with c | c
        · exact c
        · exact absurd ⟨Int32.not_lt.mp h0, c⟩ hg
    · unfold f_Mo_link
      rw [within_eq, if_neg hg, cl_mk, jn_mk, if_pos rfl]
      show (cl (f_Mo_refuse M 1 0) fun r2 V2 => _) = _
      rw [refuse_10, cl_mk, if_neg (show ¬ (1 : Int32) = 0 by decide)]
