/-! What is owed of the pure definitions: an invariant of the two stores that every call keeps, the two answers alike. -/
/-- how far the row of words has grown -/
def phi (V : Sto) : Nat := if (V 1000 14).toNatClampNeg < 100000 then 2 * (V 1000 14).toNatClampNeg else 300000
theorem phi_le (V : Sto) : phi V ≤ 300000 := by
  unfold phi
  split <;> omega
/-- a call of the class beside one of the reference: the same exception, or the same answer; g places are made -/
def StI (I : Sto → Sto → Prop) (cs : List (Nat × Int32)) (x : RTT) (y : RT) (V : Sto) (g : Nat) : Prop :=
  ∃ (k r : Int32) (V' : Sto) (b : Int32) (M' : Sto), HO cs x V k r V' ∧ y = some (b, M') ∧ M' 0 0 = k ∧ (k = 0 → r = b) ∧ I V' M' ∧ g + phi V ≤ phi V'
def StS (I : Sto → Sto → Prop) (cs : List (Nat × Int32)) (x : RTT) (y : RT) (V : Sto) (g : Nat) : Prop :=
  ∃ (k r : Int32) (V' : Sto) (b : Int32) (M' : Sto), HO cs x V k r V' ∧ y = some (b, M') ∧ M' 0 0 = k ∧ (k = 0 → r = b) ∧ I V' M' ∧ (if k = 0 then g else 0) + phi V ≤ phi V'
def StV (I : Sto → Sto → Prop) (cs : List (Nat × Int32)) (x : RTT) (y : RT) (V : Sto) : Prop :=
  ∃ (k r : Int32) (V' : Sto) (b : Int32) (M' : Sto), HO cs x V k r V' ∧ y = some (b, M') ∧ M' 0 0 = k ∧ True ∧ I V' M' ∧ 0 + phi V ≤ phi V'
def StF (I : Sto → Sto → Prop) (x y : RT) (V : Sto) : Prop :=
  ∃ (r : Int32) (V' : Sto) (b : Int32) (M' : Sto), x = some (r, V') ∧ y = some (b, M') ∧ I V' M' ∧ 0 + phi V ≤ phi V'
def LawStep (I : Sto → Sto → Prop) (V M : Sto) : Prop :=
  (∀ p1, StI I cs_Lw_unit (f_Ly_unit V p1) (f_Mo_unit M p1) V 0) ∧
  (∀ p1 p2 p3 p4, StS I cs_Lw_section (f_Ly_section V p1 p2 p3 p4) (f_Mo_section M p1 p2 p3 p4) V (gsA V p2 p3)) ∧
  (∀ p1 p2 p3, StV I cs_Lw_word (f_Ly_word V p1 p2 p3) (f_Mo_word M p1 p2 p3) V) ∧
  (∀ p1 p2 p3 p4, StI I cs_Lw_symbol (f_Ly_symbol V p1 p2 p3 p4) (f_Mo_symbol M p1 p2 p3 p4) V 0) ∧
  (∀ p1 p2 p3 p4 p5, StI I cs_Lw_other (f_Ly_other V p1 p2 p3 p4 p5) (f_Mo_other M p1 p2 p3 p4 p5) V 0) ∧
  (∀ p1 p2 p3 p4 p5, StI I cs_Lw_relocation (f_Ly_relocation V p1 p2 p3 p4 p5) (f_Mo_relocation M p1 p2 p3 p4 p5) V 0) ∧
  (∀ p1, StV I cs_Lw_entry (f_Ly_entry V p1) (f_Mo_entry M p1) V) ∧
  (∀ p1 p2, bb p2 = true → StV I cs_Lw_keep (f_Ly_keep V p1 p2) (f_Mo_keep M p1 p2) V) ∧
  (∀ p1 p2, bb p1 = true → bb p2 = true → StF I (f_Ly_fold V p1 p2) (f_Mo_fold M p1 p2) V) ∧
  StF I (f_Ly_clear V) (f_Mo_clear M) V ∧
  (∀ p1, StI I cs_Lw_link (f_Ly_link V p1) (f_Mo_link M p1) V 0) ∧
  (∀ p1, StI I cs_Lw_fault (f_Ly_fault V p1) (f_Mo_fault M p1) V 0) ∧
  (∀ p1, StI I cs_Lw_isIn (f_Ly_isIn V p1) (f_Mo_isIn M p1) V 0) ∧
  (∀ p1, StI I cs_Lw_address (f_Ly_address V p1) (f_Mo_address M p1) V 0) ∧
  (∀ p1, StI I cs_Lw_like (f_Ly_like V p1) (f_Mo_like M p1) V 0) ∧
  (∀ p1 p2, StI I cs_Lw_means (f_Ly_means V p1 p2) (f_Mo_means M p1 p2) V 0) ∧
  (∀ p1, StI I cs_Lw_common (f_Ly_common V p1) (f_Mo_common M p1) V 0) ∧
  (∀ p1, StI I cs_Lw_at (f_Ly_at V p1) (f_Mo_at M p1) V 0) ∧
  (∀ p1, StI I cs_Lw_about (f_Ly_about V p1) (f_Mo_about M p1) V 0)
def LawOk (I : Sto → Sto → Prop) : Prop := I V0C V0M ∧ ∀ V M, I V M → LawStep I V M
theorem lg_eq {x y : Int64} (h : x = y) : lg_cmp x y = 0 := by
  subst h
  unfold lg_cmp
  rw [if_neg (Int64.lt_irrefl), if_pos rfl]
def LG (C : YC) (cJ : ClassId) (b LL : Nat) (xs : Nat → Int32) : Prop := va_K C.D classes [(cJ, .long)] C.s ∧ XT C.A C.s C.s.heap ∧ NCs C.s ∧ va_X b LL xs C.s C.s.heap ∧ b < C.s.heap.size ∧ ¬ C.A b ∧ NoTr C.l
abbrev lwL (i : Int32) (o m x b : Nat) : List (Nat × Value) := [(4, .int i), (3, .ref o), (2, .ref m), (1, .ref x), (0, .ref b)]
def LK (C : YC) (cJ : ClassId) (I : Sto → Sto → Prop) (a a' : Nat → Nat) (o b : Nat) (i : Int32) (k n : Nat) (V : Sto) : Prop :=
  ∀ (V' M' : Sto) (a1 : Nat → Nat) (f1 : Nat → Int64) (k' n' : Nat), I V' M' → a1 0 = a 0 → k' ≤ k + 1 → n' + phi V ≤ n + 6 + phi V' → Z C 7 k' n' 1341 (lwL i o (a' 0) (a 0) b) [] (wsF C.cI C.cZ a' M' 0 shpM ++ (wsF C.cI C.cZ a1 V' 0 shpC ++ [outC cJ o f1]))
section ZL
variable {C : YC} {own : String} {cc : ByteArray} {nL pc k n : Nat} {L : List (Nat × Value)} {st : List Value} {P X S : va_W} {r : Int32} {idx ci N : Nat} {y : MethodName} {cc' : ByteArray} {maxL' : Nat} {hh : List (Nat × Nat × Nat × Nat)} {rm rm' : Room} {As rest : List Value} {cJ : ClassId} {B : va_W → Prop} {a : Nat → Nat} {shp : List Shp} {V V1 : Sto} {T : u_T} {fs : List (Option Nat)} {w : Bool} {ty' : FieldType}
theorem Z_hsX {g : Nat} (hC : YF C own cc nL room_1) (hJ : va_K C.D classes [(cJ, .long)] C.s) (hXT : XT C.A C.s C.s.heap) (hN : NCs C.s) (hX : HX C.l C.D C.cI C.cZ cJ y cc' maxL' hh As X r B g) (hm : MLh own idx y cc' maxL' hh As.length) (hmax : maxL' ≤ 20)
    (hkn : k + 1 ≤ 601024 ∧ n + 6 + g ≤ 7293034) (hcat : (rest.map fun v => v.category).sum ≤ 8) (hst : st = As.reverse ++ rest) (d : decode cc pc = .ok (.invokestatic idx, 3))
    (kk : ∀ (w : va_W) (k' n' : Nat), B w → k' ≤ k + 1 → n' ≤ n + 6 + g → Z C nL k' n' (pc + 3) L (.int r :: rest) (P ++ w)) : Z C nL k n pc L st (P ++ X) := by
  obtain ⟨rm', ⟨h1, h2, h3, h4⟩, hM⟩ := hX
  refine Z_hs hC hJ hXT hN hM hm ⟨?_, ?_⟩ ⟨?_, ?_⟩ hcat hst d (fun w hB => kk w _ _ hB (by omega) (by omega))
  · show rm'.frames + 1 ≤ 2048
    omega
  · show 8 + (maxL' + 11) + rm'.locals ≤ 84000
    omega
  · show k + rm'.cells ≤ 601024
    omega
  · show n + rm'.slots ≤ 7293034
    omega
theorem Z_vi0 (hC : YF C own cc nL rm) (hM : YMi C.l C.D C.cI C.cZ a shp y cc' maxL' (some ty') rm' w (.ref (a 0) :: As) V r V1) (hs : shp[0]? = some (.inl (ci, fs))) (hc : classes[ci]? = some (y.cls, T, N)) (hm : MLb own idx y cc' maxL' (some ty') As.length) (hv : MLv y)
    (hroom : (rm'.frames + 1 ≤ rm.frames ∧ 8 + (maxL' + 11) + rm'.locals ≤ rm.locals) ∧ rm'.cells = 0 ∧ rm'.slots = 0) (hkn : k ≤ rm.cells ∧ n ≤ rm.slots) (hcat : (rest.map fun v => v.category).sum ≤ 8) (hst : st = As.reverse ++ .ref (a 0) :: rest) (d : decode cc pc = .ok (.invokevirtual idx, 3))
    (kk : Z C nL k n (pc + 3) L (.int r :: rest) (wsF C.cI C.cZ a V1 0 shp ++ S)) : Z C nL k n pc L st (wsF C.cI C.cZ a V 0 shp ++ S) := Z_vi (P := []) hC hM hs hc hm hv hroom hkn hcat hst d kk
theorem Z_vv0 (hC : YF C own cc nL rm) (hM : YMv C.l C.D C.cI C.cZ a shp y cc' maxL' rm' w (.ref (a 0) :: As) V V1) (hs : shp[0]? = some (.inl (ci, fs))) (hc : classes[ci]? = some (y.cls, T, N)) (hm : MLb own idx y cc' maxL' none As.length) (hv : MLv y)
    (hroom : (rm'.frames + 1 ≤ rm.frames ∧ 8 + (maxL' + 11) + rm'.locals ≤ rm.locals) ∧ rm'.cells = 0 ∧ rm'.slots = 0) (hkn : k ≤ rm.cells ∧ n ≤ rm.slots) (hcat : (rest.map fun v => v.category).sum ≤ 8) (hst : st = As.reverse ++ .ref (a 0) :: rest) (d : decode cc pc = .ok (.invokevirtual idx, 3))
    (kk : Z C nL k n (pc + 3) L rest (wsF C.cI C.cZ a V1 0 shp ++ S)) : Z C nL k n pc L st (wsF C.cI C.cZ a V 0 shp ++ S) := Z_vv (P := []) hC hM hs hc hm hv hroom hkn hcat hst d kk
end ZL
