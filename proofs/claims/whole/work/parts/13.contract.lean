/-! Contracts of methods over a fixed graph: YMi (an int comes back), YMv (nothing does). -/
def YWd (D : va_G) (cI cZ : ClassId) (a : Nat → Nat) (shp : List Shp) (V : Sto) (t : State) : Prop := va_P D classes (wsF cI cZ a V 0 shp) t.heap ∧ va_K D classes (tysOf cI cZ) t ∧ va_D (fun _ => True) (wsF cI cZ a V 0 shp)
def YQi (D : va_G) (cI cZ : ClassId) (a : Nat → Nat) (shp : List Shp) (A : Nat → Prop) (r : Int32) (V' : Sto) : Array Value → State → Outcome → State → Prop := va_Qi (fun r' (_ : Unit) => r' = r) (fun _ t => YWd D cI cZ a shp V' t) A
def YQv (D : va_G) (cI cZ : ClassId) (a : Nat → Nat) (shp : List Shp) (A : Nat → Prop) (V' : Sto) : Array Value → State → Outcome → State → Prop := va_Qv (fun (_ : Unit) => True) (fun _ t => YWd D cI cZ a shp V' t) A
def YPc (D : va_G) (cI cZ : ClassId) (a : Nat → Nat) (shp : List Shp) (av : List Value) (V : Sto) (sz : Nat) : Array Value → State → Prop := va_Pc av (fun U => U.heap.size = sz ∧ YWd D cI cZ a shp V U)
def YMi (l : Launch) (D : va_G) (cI cZ : ClassId) (a : Nat → Nat) (shp : List Shp) (y : MethodName) (cc : ByteArray) (maxL : Nat) (ret : Option FieldType) (rm : Room) (w : Bool) (av : List Value) (V : Sto) (r : Int32) (V' : Sto) : Prop :=
  ∀ sz : Nat, Met l y (Cond.code y cc maxL ret :: ALLW) rm (YPc D cI cZ a shp av V sz) (YQi D cI cZ a shp (RA w a shp.length sz) r V') 0 0 (RA w a shp.length sz)
def YMv (l : Launch) (D : va_G) (cI cZ : ClassId) (a : Nat → Nat) (shp : List Shp) (y : MethodName) (cc : ByteArray) (maxL : Nat) (rm : Room) (w : Bool) (av : List Value) (V V' : Sto) : Prop :=
  ∀ sz : Nat, Met l y (Cond.code y cc maxL none :: ALLW) rm (YPc D cI cZ a shp av V sz) (YQv D cI cZ a shp (RA w a shp.length sz) V') 0 0 (RA w a shp.length sz)
/-- the end that a walk comes to -/
def YEi (C : YC) (ty : FieldType) (shp : List Shp) (r : Int32) (V' : Sto) : Prop := C.meth.sig.returnType = some ty ∧ C.Q = MQ C.below (YQi C.D C.cI C.cZ C.a shp C.A r V') C.args C.s C.k C.n C.A
def YEv (C : YC) (shp : List Shp) (V' : Sto) : Prop := C.meth.sig.returnType = none ∧ C.Q = MQ C.below (YQv C.D C.cI C.cZ C.a shp C.A V') C.args C.s C.k C.n C.A
theorem RA_in {C : YC} {shp : List Shp} {w : Bool} {H : Heap} {locs : List Loc} (hw : w = true → YWr C shp) (hS : va_S C.A C.s.heap H locs) (hA : ∀ q : Nat, C.s.heap.size ≤ q → C.A q) : ∀ q, RA w C.a shp.length H.size q → C.A q := by
  intro q h
  rcases h with ⟨h0, k, hk, rfl⟩ | h
  · exact hw h0 k hk
  · exact hA q (Nat.le_trans hS.1 h)
theorem YPc_blind {D : va_G} {cI cZ : ClassId} {a : Nat → Nat} {shp : List Shp} {av : List Value} {V : Sto} {sz : Nat} : FrameBlind (YPc D cI cZ a shp av V sz) := fun a U g mk q => by
  obtain ⟨q0, q1, qP, qK, qD⟩ := q
  exact ⟨q0, q1, qP, va_K.moved (u := U) (U := U.calling g mk a) (Vm.Alike.refl U.vm) qK, qD⟩
section YCo
variable {l : Launch} {D : va_G} {cI cZ : ClassId} {a : Nat → Nat} {shp : List Shp} {y : MethodName} {cc : ByteArray} {maxL : Nat} {rm : Room} {w : Bool} {av : List Value} {V : Sto}
theorem YMi_of {ty : FieldType} {r : Int32} {V' : Sto} (hy : plainName y.cls = true) (hlen : (lg_sl av).length ≤ maxL)
    (body : ∀ C : YC, C.l = l → C.D = D → C.cI = cI → C.cZ = cZ → C.a = a → YF C y.cls cc maxL rm → (w = true → YWr C shp) → YEi C ty shp r V' → Y C shp maxL 0 (lv_args 0 av) [] V) : YMi l D cI cZ a shp y cc maxL (some ty) rm w av V r V' := by
  intro sz
  refine Met.ofW (cc := cc) (maxL := maxL) (ret := some ty) hy rfl ?_
  intro p e s m args below meth c s₁ B hml hv
  obtain ⟨rfl, hsz, hP, hK, hD0⟩ := hv
  subst hsz
  have hts0 := atoms_spec (ws := Cond.code y cc maxL (some ty) :: ALLW) B.pre
  have hb := body ((p, l, e, (headSpec (Cond.code y cc maxL (some ty) :: ALLW) rm).room, s), (m, av.toArray, below, meth, c), (D, cI, cZ), (a, RA w a shp.length s.heap.size), (0, 0), MQ below (YQi D cI cZ a shp (RA w a shp.length s.heap.size) r V') av.toArray s 0 0 (RA w a shp.length s.heap.size)) rfl rfl rfl rfl rfl
    ⟨B.exec, B.bytes, hml, findClass_of_methodNamed B.named, fun w hw => hts0 w (List.mem_cons_of_mem _ hw), hK, B.notSynchronized, rfl, fun q h => Or.inr h, Nat.zero_le _, Nat.zero_le _⟩ (fun h k hk => Or.inl ⟨h, k, hk, rfl⟩) ⟨B.returns, rfl⟩
  have hl := lv_entry av (n := maxL) hlen
  rw [lg_entry_eq]
  exact hb s.heap [] _ hP hD0 va_S.rf hl
theorem YMv_of {V' : Sto} (hy : plainName y.cls = true) (hlen : (lg_sl av).length ≤ maxL)
    (body : ∀ C : YC, C.l = l → C.D = D → C.cI = cI → C.cZ = cZ → C.a = a → YF C y.cls cc maxL rm → (w = true → YWr C shp) → YEv C shp V' → Y C shp maxL 0 (lv_args 0 av) [] V) : YMv l D cI cZ a shp y cc maxL rm w av V V' := by
  intro sz
  refine Met.ofW (cc := cc) (maxL := maxL) (ret := none) hy rfl ?_
  intro p e s m args below meth c s₁ B hml hv
  obtain ⟨rfl, hsz, hP, hK, hD0⟩ := hv
  subst hsz
  have hts0 := atoms_spec (ws := Cond.code y cc maxL none :: ALLW) B.pre
  have hb := body ((p, l, e, (headSpec (Cond.code y cc maxL none :: ALLW) rm).room, s), (m, av.toArray, below, meth, c), (D, cI, cZ), (a, RA w a shp.length s.heap.size), (0, 0), MQ below (YQv D cI cZ a shp (RA w a shp.length s.heap.size) V') av.toArray s 0 0 (RA w a shp.length s.heap.size)) rfl rfl rfl rfl rfl
    ⟨B.exec, B.bytes, hml, findClass_of_methodNamed B.named, fun w hw => hts0 w (List.mem_cons_of_mem _ hw), hK, B.notSynchronized, rfl, fun q h => Or.inr h, Nat.zero_le _, Nat.zero_le _⟩ (fun h k hk => Or.inl ⟨h, k, hk, rfl⟩) ⟨B.returns, rfl⟩
  have hl := lv_entry av (n := maxL) hlen
  rw [lg_entry_eq]
  exact hb s.heap [] _ hP hD0 va_S.rf hl
end YCo
section YCa
variable {C : YC} {own : String} {cc : ByteArray} {nL pc : Nat} {rm : Room} {shp : List Shp} {L : List (Nat × Value)} {st : List Value} {V : Sto}
theorem Y_iret {r v : Int32} {V' : Sto} (hC : YF C own cc nL rm) (hE : YEi C .int shp r V') (d : decode cc pc = .ok (.ireturn, 1)) (h : some (v, V) = some (r, V')) : Y C shp nL pc L [.int v] V := by
  obtain ⟨hx, hb, hml, hown, hts, hK, hlk, hR, hA, hk1, hk2⟩ := hC
  obtain ⟨hr, hQ⟩ := hE
  cases h
  intro H locs ls hP hD hS hl
  show W _ _ _ _ _ _ _ _ _ _ _ _ _ _ C.Q _
  rw [hQ]
  exact W.iret (v := r) hx hb hr (fun t ht hW => ⟨⟨r, (), rfl, rfl, by rw [ht]; exact hP, va_K.moved hW.alike hK, hD⟩, hS.F ht⟩) hS.2.2 d hlk
theorem Y_zret {r v : Int32} {V' : Sto} (hC : YF C own cc nL rm) (hE : YEi C .boolean shp r V') (d : decode cc pc = .ok (.ireturn, 1)) (hn : bb v = true) (h : some (v, V) = some (r, V')) : Y C shp nL pc L [.int v] V := by
  obtain ⟨hx, hb, hml, hown, hts, hK, hlk, hR, hA, hk1, hk2⟩ := hC
  obtain ⟨hr, hQ⟩ := hE
  cases h
  intro H locs ls hP hD hS hl
  show W _ _ _ _ _ _ _ _ _ _ _ _ _ _ C.Q _
  rw [hQ]
  have hnv : narrow .boolean (.int r) = .int r := by
    unfold bb at hn
    rw [Bool.or_eq_true, decide_eq_true_eq, decide_eq_true_eq] at hn
    rcases hn with rfl | rfl <;> rfl
  exact W.zret (v := r) hx hb hr hnv (fun t ht hW => ⟨⟨r, (), rfl, rfl, by rw [ht]; exact hP, va_K.moved hW.alike hK, hD⟩, hS.F ht⟩) hS.2.2 d hlk
theorem Y_vret {r : Int32} {V' : Sto} (hC : YF C own cc nL rm) (hE : YEv C shp V') (d : decode cc pc = .ok (.return_, 1)) (h : some ((0 : Int32), V) = some (r, V')) : Y C shp nL pc L [] V := by
  obtain ⟨hx, hb, hml, hown, hts, hK, hlk, hR, hA, hk1, hk2⟩ := hC
  obtain ⟨hr, hQ⟩ := hE
  cases h
  intro H locs ls hP hD hS hl
  show W _ _ _ _ _ _ _ _ _ _ _ _ _ _ C.Q _
  rw [hQ]
  exact W.vret hx hb hr (fun t ht hW => ⟨⟨(), rfl, trivial, by rw [ht]; exact hP, va_K.moved hW.alike hK, hD⟩, hS.F ht⟩) hS.2.2 d hlk
/-- a method's words, as a call needs them -/
def MLb (own : String) (idx : Nat) (y : MethodName) (cc : ByteArray) (maxL : Nat) (ret : Option FieldType) (n : Nat) : Prop :=
  Cond.code y cc maxL ret ∈ ALLW ∧ Cond.methodLink own idx y ∈ ALLW ∧ Cond.initialized y.cls ∈ ALLW ∧ (y.cls ≠ "java/lang/invoke/MethodHandle" ∧ y.cls ≠ "java/lang/invoke/VarHandle" ∧ (parseMethodDescriptor y.desc).map (fun d => d.parameters.length) = some n)
def MLv (y : MethodName) : Prop := Cond.instanceMethod y ∈ ALLW ∧ Cond.selects y.cls y y ∈ ALLW
theorem gd_code {y : MethodName} {cc : ByteArray} {maxL : Nat} {ret : Option FieldType} (h : Cond.code y cc maxL ret ∈ ALLW) : GoodIn ALLW (Cond.code y cc maxL ret :: ALLW) := fun w hw => by
  rcases List.mem_cons.mp hw with rfl | hw
  · exact ⟨h, goodAll _ h⟩
  · exact ⟨hw, goodAll _ hw⟩
variable {idx k ci N : Nat} {y : MethodName} {cc' : ByteArray} {maxL' : Nat} {rm' : Room} {As rest : List Value} {T : u_T} {fs : List (Option Nat)} {w : Bool}
theorem Y_cbase {ret' : Option FieldType} (hC : YF C own cc nL rm) (hm : MLb own idx y cc' maxL' ret' As.length) (hroom : (rm'.frames + 1 ≤ rm.frames ∧ 8 + (maxL' + 11) + rm'.locals ≤ rm.locals) ∧ rm'.cells = 0 ∧ rm'.slots = 0) : CallB C.R C.s C.args own idx y cc' maxL' ret' (Cond.code y cc' maxL' ret' :: ALLW) rm' 0 0 As.length := by
  obtain ⟨hx, hb, hml, hown, hts, hK, hlk, hR, hA, hk1, hk2⟩ := hC
  exact callB_of As.length hts (gd_code hm.1) rfl hroom.2.1 hroom.2.2 (hts _ hm.2.2.1) (hts _ hm.2.1) hm.2.2.2 (by rw [hR]; exact hroom.1)
theorem Y_recv {H : Heap} (hC : YF C own cc nL rm) (hs : shp[k]? = some (.inl (ci, fs))) (hc : classes[ci]? = some (y.cls, T, N)) (hP : va_P C.D classes (C.ws shp V) H) : ∃ cell : Cell, H[C.a k]? = some cell ∧ cell.vm.isStatics = false ∧ C.s.vm.findClass y.cls = some cell.cls := by
  obtain ⟨hx, hb, hml, hown, hts, hK, hlk, hR, hA, hk1, hk2⟩ := hC
  refine va_recv hK hP (ci := ci) (q0 := k) (fs := fvs C.a (V k) 0 fs) hc ?_
  show (wsF _ _ _ _ _ _)[k]? = _
  rw [wsF_at, hs]
  simp [cellE]
theorem Y_callV {ty' : FieldType} {r : Int32} {V1 : Sto} (hC : YF C own cc nL rm) (hM : YMi C.l C.D C.cI C.cZ C.a shp y cc' maxL' (some ty') rm' w (.ref (C.a k) :: As) V r V1) (hwk : w = true → YWr C shp) (hs : shp[k]? = some (.inl (ci, fs))) (hc : classes[ci]? = some (y.cls, T, N)) (hm : MLb own idx y cc' maxL' (some ty') As.length) (hv : MLv y)
    (hroom : (rm'.frames + 1 ≤ rm.frames ∧ 8 + (maxL' + 11) + rm'.locals ≤ rm.locals) ∧ rm'.cells = 0 ∧ rm'.slots = 0) (hcat : (rest.map fun v => v.category).sum ≤ 8) (hst : st = As.reverse ++ .ref (C.a k) :: rest) (d : decode cc pc = .ok (.invokevirtual idx, 3)) (kk : Y C shp nL (pc + 3) L (.int r :: rest) V1) : Y C shp nL pc L st V := by
  have hcb := Y_cbase hC hm hroom
  have hC' := hC
  obtain ⟨hx, hb, hml, hown, hts, hK, hlk, hR, hA, hk1, hk2⟩ := hC'
  subst hst
  intro H locs ls hP hD hS hl
  have hFc := RA_in hwk hS hA
  refine va_calli (va_runV (As := As) (rest := rest) ⟨hx, hb, hml, hown, hts⟩ (hM H.size) ⟨hcb, hts _ hv.1, hts _ hv.2⟩ ⟨YPc_blind, Y_recv hC hs hc hP, fun U hU hW => ⟨rfl, by rw [hU], by rw [hU]; exact hP, va_K.moved hW.alike hK, hD⟩⟩ rfl rfl hl.1 rfl (lv_room hcat) d ⟨hk1, hk2⟩) hS (fun q _ h => hFc q h) hFc (fun r' u t H1 locs ht hvm hw hB hz1 hkk hS => ?_)
  subst hw
  obtain ⟨hP1, hK1, hD1⟩ := hB
  rw [ht] at hP1
  exact kk H1 locs ls hP1 hD1 hS hl
theorem Y_callVv {V1 : Sto} (hC : YF C own cc nL rm) (hM : YMv C.l C.D C.cI C.cZ C.a shp y cc' maxL' rm' w (.ref (C.a k) :: As) V V1) (hwk : w = true → YWr C shp) (hs : shp[k]? = some (.inl (ci, fs))) (hc : classes[ci]? = some (y.cls, T, N)) (hm : MLb own idx y cc' maxL' none As.length) (hv : MLv y)
    (hroom : (rm'.frames + 1 ≤ rm.frames ∧ 8 + (maxL' + 11) + rm'.locals ≤ rm.locals) ∧ rm'.cells = 0 ∧ rm'.slots = 0) (hcat : (rest.map fun v => v.category).sum ≤ 8) (hst : st = As.reverse ++ .ref (C.a k) :: rest) (d : decode cc pc = .ok (.invokevirtual idx, 3)) (kk : Y C shp nL (pc + 3) L rest V1) : Y C shp nL pc L st V := by
  have hcb := Y_cbase hC hm hroom
  have hC' := hC
  obtain ⟨hx, hb, hml, hown, hts, hK, hlk, hR, hA, hk1, hk2⟩ := hC'
  subst hst
  intro H locs ls hP hD hS hl
  have hFc := RA_in hwk hS hA
  refine va_callv (va_runV (As := As) (rest := rest) ⟨hx, hb, hml, hown, hts⟩ (hM H.size) ⟨hcb, hts _ hv.1, hts _ hv.2⟩ ⟨YPc_blind, Y_recv hC hs hc hP, fun U hU hW => ⟨rfl, by rw [hU], by rw [hU]; exact hP, va_K.moved hW.alike hK, hD⟩⟩ rfl rfl hl.1 rfl (lv_room hcat) d ⟨hk1, hk2⟩) hS (fun q _ h => hFc q h) hFc (fun u t H1 locs ht hvm hw hB hz1 hkk hS => ?_)
  obtain ⟨hP1, hK1, hD1⟩ := hB
  rw [ht] at hP1
  exact kk H1 locs ls hP1 hD1 hS hl
theorem Y_callS {ty' : FieldType} {r : Int32} {V1 : Sto} (hC : YF C own cc nL rm) (hM : YMi C.l C.D C.cI C.cZ C.a shp y cc' maxL' (some ty') rm' w As V r V1) (hwk : w = true → YWr C shp) (hm : MLb own idx y cc' maxL' (some ty') As.length) (hv : Cond.static y ∈ ALLW)
    (hroom : (rm'.frames + 1 ≤ rm.frames ∧ 8 + (maxL' + 11) + rm'.locals ≤ rm.locals) ∧ rm'.cells = 0 ∧ rm'.slots = 0) (hcat : (rest.map fun v => v.category).sum ≤ 8) (hst : st = As.reverse ++ rest) (d : decode cc pc = .ok (.invokestatic idx, 3)) (kk : Y C shp nL (pc + 3) L (.int r :: rest) V1) : Y C shp nL pc L st V := by
  have hcb := Y_cbase hC hm hroom
  obtain ⟨hx, hb, hml, hown, hts, hK, hlk, hR, hA, hk1, hk2⟩ := hC
  subst hst
  intro H locs ls hP hD hS hl
  have hFc := RA_in hwk hS hA
  refine va_calli (va_runS (As := As) (rest := rest) ⟨hx, hb, hml, hown, hts⟩ (hM H.size) ⟨hcb, hts _ hv⟩ ⟨YPc_blind, fun U hU hW => ⟨rfl, by rw [hU], by rw [hU]; exact hP, va_K.moved hW.alike hK, hD⟩⟩ rfl rfl hl.1 rfl (lv_room hcat) d ⟨hk1, hk2⟩) hS (fun q _ h => hFc q h) hFc (fun r' u t H1 locs ht hvm hw hB hz1 hkk hS => ?_)
  subst hw
  obtain ⟨hP1, hK1, hD1⟩ := hB
  rw [ht] at hP1
  exact kk H1 locs ls hP1 hD1 hS hl
theorem Y_callSv {V1 : Sto} (hC : YF C own cc nL rm) (hM : YMv C.l C.D C.cI C.cZ C.a shp y cc' maxL' rm' w As V V1) (hwk : w = true → YWr C shp) (hm : MLb own idx y cc' maxL' none As.length) (hv : Cond.static y ∈ ALLW)
    (hroom : (rm'.frames + 1 ≤ rm.frames ∧ 8 + (maxL' + 11) + rm'.locals ≤ rm.locals) ∧ rm'.cells = 0 ∧ rm'.slots = 0) (hcat : (rest.map fun v => v.category).sum ≤ 8) (hst : st = As.reverse ++ rest) (d : decode cc pc = .ok (.invokestatic idx, 3)) (kk : Y C shp nL (pc + 3) L rest V1) : Y C shp nL pc L st V := by
  have hcb := Y_cbase hC hm hroom
  obtain ⟨hx, hb, hml, hown, hts, hK, hlk, hR, hA, hk1, hk2⟩ := hC
  subst hst
  intro H locs ls hP hD hS hl
  have hFc := RA_in hwk hS hA
  refine va_callv (va_runS (As := As) (rest := rest) ⟨hx, hb, hml, hown, hts⟩ (hM H.size) ⟨hcb, hts _ hv⟩ ⟨YPc_blind, fun U hU hW => ⟨rfl, by rw [hU], by rw [hU]; exact hP, va_K.moved hW.alike hK, hD⟩⟩ rfl rfl hl.1 rfl (lv_room hcat) d ⟨hk1, hk2⟩) hS (fun q _ h => hFc q h) hFc (fun u t H1 locs ht hvm hw hB hz1 hkk hS => ?_)
  obtain ⟨hP1, hK1, hD1⟩ := hB
  rw [ht] at hP1
  exact kk H1 locs ls hP1 hD1 hS hl
end YCa
