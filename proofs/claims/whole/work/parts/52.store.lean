/-! Contracts of the methods under which the row of words may grow: the graph's addresses behind them differ at the row 14 alone. -/
def gok (V : Sto) (n : Int32) : Bool := decide (n = nI n.toNatClampNeg) && (decide (n.toNatClampNeg ≤ 100000) && decide ((V 1000 14).toNatClampNeg < n.toNatClampNeg))
def glen (V : Sto) : Int32 := nI (V 1000 14).toNatClampNeg
def gnew (V : Sto) (p : Int32) : Int32 := if V 2 2 + p < (if 100000 < 2 * glen V then 100000 else 2 * glen V) then (if 100000 < 2 * glen V then 100000 else 2 * glen V) else V 2 2 + p
/-- how many cells, and places, a store of p words makes -/
def gc (V : Sto) (p : Int32) : Nat := if V 2 2 + p ≤ glen V then 0 else 1
def gs (V : Sto) (p : Int32) : Nat := if V 2 2 + p ≤ glen V then 0 else (gnew V p).toNatClampNeg
def f_Se_store (V : Sto) (p1 : Int32) : RT := if V 2 2 + p1 ≤ glen V then g_Se_tail V (V 2 2 + p1) else ck (gok V (gnew V p1)) <| g_Se_tail (grow V (gnew V p1).toNatClampNeg) (V 2 2 + p1)
def YWg (D : va_G) (cI cZ : ClassId) (a : Nat → Nat) (A : Nat → Prop) (V : Sto) (t : State) : Prop := ∃ a' : Nat → Nat, (∀ k, k ≠ 14 → a' k = a k) ∧ A (a' 14) ∧ YWd D cI cZ a' shpC V t
def YQvG (D : va_G) (cI cZ : ClassId) (a : Nat → Nat) (A : Nat → Prop) (V' : Sto) : Array Value → State → Outcome → State → Prop := va_Qv (fun (_ : Unit) => True) (fun _ t => YWg D cI cZ a A V' t) A
def YQiG (D : va_G) (cI cZ : ClassId) (a : Nat → Nat) (A : Nat → Prop) (r : Int32) (V' : Sto) : Array Value → State → Outcome → State → Prop := va_Qi (fun r' (_ : Unit) => r' = r) (fun _ t => YWg D cI cZ a A V' t) A
def YMvG (l : Launch) (D : va_G) (cI cZ : ClassId) (a : Nat → Nat) (y : MethodName) (cc : ByteArray) (maxL : Nat) (rm : Room) (av : List Value) (V V' : Sto) : Prop :=
  ∀ sz : Nat, Met l y (Cond.code y cc maxL none :: ALLW) rm (YPc D cI cZ a shpC av V sz) (YQvG D cI cZ a (RA true a shpC.length sz) V') rm.cells rm.slots (RA true a shpC.length sz)
def YMiG (l : Launch) (D : va_G) (cI cZ : ClassId) (a : Nat → Nat) (y : MethodName) (cc : ByteArray) (maxL : Nat) (rm : Room) (av : List Value) (V : Sto) (r : Int32) (V' : Sto) : Prop :=
  ∀ sz : Nat, Met l y (Cond.code y cc maxL (some .int) :: ALLW) rm (YPc D cI cZ a shpC av V sz) (YQiG D cI cZ a (RA true a shpC.length sz) r V') rm.cells rm.slots (RA true a shpC.length sz)
/-- the end of a walk whose row may have grown: a0 were its addresses at first -/
def GQv (C : YC) (a0 : Nat → Nat) (rm : Room) (V' : Sto) : Prop := C.meth.sig.returnType = none ∧ C.Q = MQ C.below (YQvG C.D C.cI C.cZ a0 C.A V') C.args C.s rm.cells rm.slots C.A ∧ (∀ k, k ≠ 14 → C.a k = a0 k) ∧ C.A (C.a 14)
def GQi (C : YC) (a0 : Nat → Nat) (rm : Room) (r : Int32) (V' : Sto) : Prop := C.meth.sig.returnType = some .int ∧ C.Q = MQ C.below (YQiG C.D C.cI C.cZ a0 C.A r V') C.args C.s rm.cells rm.slots C.A ∧ (∀ k, k ≠ 14 → C.a k = a0 k) ∧ C.A (C.a 14)
/-- the same walk, its row at another address -/
def YC.moved (C : YC) (a' : Nat → Nat) (mc ms : Nat) : YC := (C.1, C.2.1, C.2.2.1, (a', C.A), (C.k + mc, C.n + ms), C.Q)
def Mv (C C2 : YC) (mc ms : Nat) : Prop := ∃ a' : Nat → Nat, C2 = C.moved a' mc ms ∧ (∀ k, k ≠ 14 → a' k = C.a k) ∧ C.A (a' 14)
theorem Mv.a {C C2 : YC} {mc ms : Nat} (h : Mv C C2 mc ms) (k : Nat) (hk : k ≠ 14) : C2.a k = C.a k := by
  obtain ⟨a', rfl, h1, h2⟩ := h
  exact h1 k hk
theorem Mv.k {C C2 : YC} {mc ms : Nat} (h : Mv C C2 mc ms) : C2.k = C.k + mc := by
  obtain ⟨a', rfl, h1, h2⟩ := h
  rfl
theorem Mv.n {C C2 : YC} {mc ms : Nat} (h : Mv C C2 mc ms) : C2.n = C.n + ms := by
  obtain ⟨a', rfl, h1, h2⟩ := h
  rfl
theorem Mv.v {C C2 : YC} {mc ms : Nat} (h : Mv C C2 mc ms) {a0 : Nat → Nat} {rm : Room} {V' : Sto} (hE : GQv C a0 rm V') : GQv C2 a0 rm V' := by
  obtain ⟨a', rfl, h1, h2⟩ := h
  exact ⟨hE.1, hE.2.1, fun k hk => (h1 k hk).trans (hE.2.2.1 k hk), h2⟩
theorem Mv.i {C C2 : YC} {mc ms : Nat} (h : Mv C C2 mc ms) {a0 : Nat → Nat} {rm : Room} {r : Int32} {V' : Sto} (hE : GQi C a0 rm r V') : GQi C2 a0 rm r V' := by
  obtain ⟨a', rfl, h1, h2⟩ := h
  exact ⟨hE.1, hE.2.1, fun k hk => (h1 k hk).trans (hE.2.2.1 k hk), h2⟩
section YG2
variable {C : YC} {own : String} {cc : ByteArray} {nL pc : Nat} {rm : Room} {L : List (Nat × Value)} {st : List Value} {V : Sto}
theorem Y_vretG {a0 : Nat → Nat} {r : Int32} {V' : Sto} (hC : YF C own cc nL rm) (hE : GQv C a0 rm V') (d : decode cc pc = .ok (.return_, 1)) (hk : C.k ≤ rm.cells ∧ C.n ≤ rm.slots) (h : some ((0 : Int32), V) = some (r, V')) : Y C shpC nL pc L [] V := by
  obtain ⟨hx, hb, hml, hown, hts, hK, hlk, hR, hA, hk1, hk2⟩ := hC
  obtain ⟨hr, hQ, ha, hA14⟩ := hE
  cases h
  intro H locs ls hP hD hS hl
  show W _ _ _ _ _ _ _ _ _ _ _ _ _ _ C.Q _
  rw [hQ]
  refine W.widen hk.1 hk.2 ?_
  exact W.vret hx hb hr (fun t ht hW => ⟨⟨(), rfl, trivial, C.a, ha, hA14, by rw [ht]; exact hP, va_K.moved hW.alike hK, hD⟩, hS.F ht⟩) hS.2.2 d hlk
theorem Y_iretG {a0 : Nat → Nat} {r v : Int32} {V' : Sto} (hC : YF C own cc nL rm) (hE : GQi C a0 rm r V') (d : decode cc pc = .ok (.ireturn, 1)) (hk : C.k ≤ rm.cells ∧ C.n ≤ rm.slots) (h : some (v, V) = some (r, V')) : Y C shpC nL pc L [.int v] V := by
  obtain ⟨hx, hb, hml, hown, hts, hK, hlk, hR, hA, hk1, hk2⟩ := hC
  obtain ⟨hr, hQ, ha, hA14⟩ := hE
  cases h
  intro H locs ls hP hD hS hl
  show W _ _ _ _ _ _ _ _ _ _ _ _ _ _ C.Q _
  rw [hQ]
  refine W.widen hk.1 hk.2 ?_
  exact W.iret (v := r) hx hb hr (fun t ht hW => ⟨⟨r, (), rfl, rfl, C.a, ha, hA14, by rw [ht]; exact hP, va_K.moved hW.alike hK, hD⟩, hS.F ht⟩) hS.2.2 d hlk
theorem Y_growM {i1 i2 : Nat} {n : Int32} (hC : YF C own cc nL rm) (hw : YWr C shpC) (hg : gok V n = true) (hm : MLb own i1 y_copyOf b_copyOf 3 (some (.array .int)) 2) (hms : Cond.static y_copyOf ∈ ALLW) (hf : FL own i2 2 3)
    (hroom : 2 ≤ rm.frames ∧ 90 ≤ rm.locals ∧ C.k + 1 ≤ rm.cells ∧ C.n + n.toNatClampNeg ≤ rm.slots) (hcat : (st.map fun v => v.category).sum ≤ 6) (d1 : decode cc pc = .ok (.invokestatic i1, 3)) (d2 : decode cc (pc + 3) = .ok (.putfield i2, 3))
    (kk : ∀ C2 : YC, Mv C C2 1 n.toNatClampNeg → YF C2 own cc nL rm → YWr C2 shpC → Y C2 shpC nL (pc + 6) L st (grow V n.toNatClampNeg)) : Y C shpC nL pc L (.int n :: .ref (C.a 14) :: .ref (C.a 2) :: st) V := by
  unfold gok at hg
  simp only [Bool.and_eq_true, decide_eq_true_eq] at hg
  refine Y_grow (N := n.toNatClampNeg) hC hw hg.1 hg.2.1 hg.2.2 hm hms hf hroom hcat d1 d2 (fun q hq h1 h2 => ?_)
  have hA := hC.2.2.2.2.2.2.2.2.1
  refine kk (C.grown q n.toNatClampNeg) ⟨va_up C.a 14 q, rfl, fun k hk => by simp [va_up, hk], ?_⟩ h1 h2
  show C.A (va_up C.a 14 q 14)
  simp only [va_up, if_true]
  exact hA q hq
variable {idx k ci N : Nat} {y : MethodName} {cc' : ByteArray} {maxL' : Nat} {rm' : Room} {As rest : List Value} {T : u_T} {fs : List (Option Nat)}
theorem Y_cbaseG {ret' : Option FieldType} (hC : YF C own cc nL rm) (hm : MLb own idx y cc' maxL' ret' As.length) (hroom : rm'.frames + 1 ≤ rm.frames ∧ 8 + (maxL' + 11) + rm'.locals ≤ rm.locals) : CallB C.R C.s C.args own idx y cc' maxL' ret' (Cond.code y cc' maxL' ret' :: ALLW) rm' rm'.cells rm'.slots As.length := by
  obtain ⟨hx, hb, hml, hown, hts, hK, hlk, hR, hA, hk1, hk2⟩ := hC
  exact callB_of As.length hts (gd_code hm.1) rfl rfl rfl (hts _ hm.2.2.1) (hts _ hm.2.1) hm.2.2.2 (by rw [hR]; exact hroom)
theorem wsF_mv {cI cZ : ClassId} {a' : Nat → Nat} {V1 : Sto} {D : va_G} {t : State} (h : YWd D cI cZ a' shpC V1 t) : va_P D classes (wsF cI cZ a' V1 0 shpC) t.heap ∧ va_D (fun _ => True) (wsF cI cZ a' V1 0 shpC) := ⟨h.1, h.2.2⟩
theorem YWr_mv {a' : Nat → Nat} {mc ms : Nat} (hw : YWr C shpC) (h1 : ∀ k, k ≠ 14 → a' k = C.a k) (h2 : C.A (a' 14)) : YWr (C.moved a' mc ms) shpC := by
  intro k hk
  show C.A (a' k)
  by_cases h14 : k = 14
  · rw [h14]; exact h2
  · rw [h1 k h14]; exact hw k hk
theorem Y_callVvG {V1 : Sto} (hC : YF C own cc nL rm) (hw : YWr C shpC) (hM : YMvG C.l C.D C.cI C.cZ C.a y cc' maxL' rm' (.ref (C.a k) :: As) V V1) (hs : shpC[k]? = some (.inl (ci, fs))) (hc : classes[ci]? = some (y.cls, T, N)) (hm : MLb own idx y cc' maxL' none As.length) (hv : MLv y)
    (hroom : (rm'.frames + 1 ≤ rm.frames ∧ 8 + (maxL' + 11) + rm'.locals ≤ rm.locals) ∧ C.k + rm'.cells ≤ rm.cells ∧ C.n + rm'.slots ≤ rm.slots) (hcat : (rest.map fun v => v.category).sum ≤ 8) (hst : st = As.reverse ++ .ref (C.a k) :: rest) (d : decode cc pc = .ok (.invokevirtual idx, 3))
    (kk : ∀ C2 : YC, Mv C C2 rm'.cells rm'.slots → YF C2 own cc nL rm → YWr C2 shpC → Y C2 shpC nL (pc + 3) L rest V1) : Y C shpC nL pc L st V := by
  have hcb := Y_cbaseG (rm' := rm') hC hm hroom.1
  have hC' := hC
  obtain ⟨hx, hb, hml, hown, hts, hK, hlk, hR, hA, hk1, hk2⟩ := hC'
  subst hst
  intro H locs ls hP hD hS hl
  have hFc := RA_in (w := true) (fun _ => hw) hS hA
  refine va_callv (va_runV (As := As) (rest := rest) ⟨hx, hb, hml, hown, hts⟩ (hM H.size) ⟨hcb, hts _ hv.1, hts _ hv.2⟩ ⟨YPc_blind, Y_recv hC hs hc hP, fun U hU hW => ⟨rfl, by rw [hU], by rw [hU]; exact hP, va_K.moved hW.alike hK, hD⟩⟩ rfl rfl hl.1 rfl (lv_room hcat) d ⟨by rw [hR]; exact hroom.2.1, by rw [hR]; exact hroom.2.2⟩) hS (fun q _ h => hFc q h) hFc (fun u t H1 locs ht hvm hw' hB hz1 hkk hS => ?_)
  obtain ⟨a', e1, e2, hP1, hK1, hD1⟩ := hB
  rw [ht] at hP1
  exact kk (C.moved a' rm'.cells rm'.slots) ⟨a', rfl, e1, hFc _ e2⟩ ⟨hx, hb, hml, hown, hts, hK, hlk, hR, hA, by show C.k + _ ≤ C.R.cells; rw [hR]; exact hroom.2.1, by show C.n + _ ≤ C.R.slots; rw [hR]; exact hroom.2.2⟩ (YWr_mv hw e1 (hFc _ e2)) H1 locs ls hP1 hD1 hS hl
theorem Y_callVG {r : Int32} {V1 : Sto} (hC : YF C own cc nL rm) (hw : YWr C shpC) (hM : YMiG C.l C.D C.cI C.cZ C.a y cc' maxL' rm' (.ref (C.a k) :: As) V r V1) (hs : shpC[k]? = some (.inl (ci, fs))) (hc : classes[ci]? = some (y.cls, T, N)) (hm : MLb own idx y cc' maxL' (some .int) As.length) (hv : MLv y)
    (hroom : (rm'.frames + 1 ≤ rm.frames ∧ 8 + (maxL' + 11) + rm'.locals ≤ rm.locals) ∧ C.k + rm'.cells ≤ rm.cells ∧ C.n + rm'.slots ≤ rm.slots) (hcat : (rest.map fun v => v.category).sum ≤ 8) (hst : st = As.reverse ++ .ref (C.a k) :: rest) (d : decode cc pc = .ok (.invokevirtual idx, 3))
    (kk : ∀ C2 : YC, Mv C C2 rm'.cells rm'.slots → YF C2 own cc nL rm → YWr C2 shpC → Y C2 shpC nL (pc + 3) L (.int r :: rest) V1) : Y C shpC nL pc L st V := by
  have hcb := Y_cbaseG (rm' := rm') hC hm hroom.1
  have hC' := hC
  obtain ⟨hx, hb, hml, hown, hts, hK, hlk, hR, hA, hk1, hk2⟩ := hC'
  subst hst
  intro H locs ls hP hD hS hl
  have hFc := RA_in (w := true) (fun _ => hw) hS hA
  refine va_calli (va_runV (As := As) (rest := rest) ⟨hx, hb, hml, hown, hts⟩ (hM H.size) ⟨hcb, hts _ hv.1, hts _ hv.2⟩ ⟨YPc_blind, Y_recv hC hs hc hP, fun U hU hW => ⟨rfl, by rw [hU], by rw [hU]; exact hP, va_K.moved hW.alike hK, hD⟩⟩ rfl rfl hl.1 rfl (lv_room hcat) d ⟨by rw [hR]; exact hroom.2.1, by rw [hR]; exact hroom.2.2⟩) hS (fun q _ h => hFc q h) hFc (fun r' u t H1 locs ht hvm hw' hB hz1 hkk hS => ?_)
  subst hw'
  obtain ⟨a', e1, e2, hP1, hK1, hD1⟩ := hB
  rw [ht] at hP1
  exact kk (C.moved a' rm'.cells rm'.slots) ⟨a', rfl, e1, hFc _ e2⟩ ⟨hx, hb, hml, hown, hts, hK, hlk, hR, hA, by show C.k + _ ≤ C.R.cells; rw [hR]; exact hroom.2.1, by show C.n + _ ≤ C.R.slots; rw [hR]; exact hroom.2.2⟩ (YWr_mv hw e1 (hFc _ e2)) H1 locs ls hP1 hD1 hS hl
end YG2
section YG3
variable {l : Launch} {D : va_G} {cI cZ : ClassId} {a : Nat → Nat} {y : MethodName} {cc : ByteArray} {maxL : Nat} {rm : Room} {av : List Value} {V : Sto}
theorem YMvG_of {V' : Sto} (hy : plainName y.cls = true) (hlen : (lg_sl av).length ≤ maxL)
    (body : ∀ C : YC, C.l = l → C.D = D → C.cI = cI → C.cZ = cZ → C.a = a → YF C y.cls cc maxL rm → YWr C shpC → GQv C C.a rm V' → C.k = 0 → C.n = 0 → Y C shpC maxL 0 (lv_args 0 av) [] V) : YMvG l D cI cZ a y cc maxL rm av V V' := by
  intro sz
  refine Met.ofW (cc := cc) (maxL := maxL) (ret := none) hy rfl ?_
  intro p e s m args below meth c s₁ B hml hv
  obtain ⟨rfl, hsz, hP, hK, hD0⟩ := hv
  subst hsz
  have hts0 := atoms_spec (ws := Cond.code y cc maxL none :: ALLW) B.pre
  have hb := body ((p, l, e, (headSpec (Cond.code y cc maxL none :: ALLW) rm).room, s), (m, av.toArray, below, meth, c), (D, cI, cZ), (a, RA true a shpC.length s.heap.size), (0, 0), MQ below (YQvG D cI cZ a (RA true a shpC.length s.heap.size) V') av.toArray s rm.cells rm.slots (RA true a shpC.length s.heap.size)) rfl rfl rfl rfl rfl
    ⟨B.exec, B.bytes, hml, findClass_of_methodNamed B.named, fun w hw => hts0 w (List.mem_cons_of_mem _ hw), hK, B.notSynchronized, rfl, fun q h => Or.inr h, Nat.zero_le _, Nat.zero_le _⟩ (fun k hk => Or.inl ⟨rfl, k, hk, rfl⟩) ⟨B.returns, rfl, fun _ _ => rfl, Or.inl ⟨rfl, 14, by decide, rfl⟩⟩ rfl rfl
  have hl := lv_entry av (n := maxL) hlen
  rw [lg_entry_eq]
  exact hb s.heap [] _ hP hD0 va_S.rf hl
theorem YMiG_of {r : Int32} {V' : Sto} (hy : plainName y.cls = true) (hlen : (lg_sl av).length ≤ maxL)
    (body : ∀ C : YC, C.l = l → C.D = D → C.cI = cI → C.cZ = cZ → C.a = a → YF C y.cls cc maxL rm → YWr C shpC → GQi C C.a rm r V' → C.k = 0 → C.n = 0 → Y C shpC maxL 0 (lv_args 0 av) [] V) : YMiG l D cI cZ a y cc maxL rm av V r V' := by
  intro sz
  refine Met.ofW (cc := cc) (maxL := maxL) (ret := some .int) hy rfl ?_
  intro p e s m args below meth c s₁ B hml hv
  obtain ⟨rfl, hsz, hP, hK, hD0⟩ := hv
  subst hsz
  have hts0 := atoms_spec (ws := Cond.code y cc maxL (some .int) :: ALLW) B.pre
  have hb := body ((p, l, e, (headSpec (Cond.code y cc maxL (some .int) :: ALLW) rm).room, s), (m, av.toArray, below, meth, c), (D, cI, cZ), (a, RA true a shpC.length s.heap.size), (0, 0), MQ below (YQiG D cI cZ a (RA true a shpC.length s.heap.size) r V') av.toArray s rm.cells rm.slots (RA true a shpC.length s.heap.size)) rfl rfl rfl rfl rfl
    ⟨B.exec, B.bytes, hml, findClass_of_methodNamed B.named, fun w hw => hts0 w (List.mem_cons_of_mem _ hw), hK, B.notSynchronized, rfl, fun q h => Or.inr h, Nat.zero_le _, Nat.zero_le _⟩ (fun k hk => Or.inl ⟨rfl, k, hk, rfl⟩) ⟨B.returns, rfl, fun _ _ => rfl, Or.inl ⟨rfl, 14, by decide, rfl⟩⟩ rfl rfl
  have hl := lv_entry av (n := maxL) hlen
  rw [lg_entry_eq]
  exact hb s.heap [] _ hP hD0 va_S.rf hl
end YG3
