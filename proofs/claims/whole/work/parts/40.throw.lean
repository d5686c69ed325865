/-! Methods that throw: their contracts (YMt), the row of 'throw new E(text)', and a call that throws. -/
/-- the launch makes no stack traces -/
def NoTr (l : Launch) : Prop := ∀ e : Env, l.admits e → e.platform.stackTraces = false
abbrev thN : String := "java/lang/Throwable"
abbrev thU : String := "[Ljava/lang/StackTraceElement;"
abbrev thL : String := "Ljava/util/List;"
/-- an exception of class E -/
def Exn (E : String) (x : Addr) (t : State) : Prop := ∃ ce : Cell, t.heap[x]? = some ce ∧ t.vm.findClass E = some ce.cls ∧ ce.vm = .none ∧ ∃ k : Class, t.vm.classes[ce.cls]? = some k
def MetT (l : Launch) (y : MethodName) (ws : List Cond) (rm : Room) (Pc : Array Value → State → Prop) (E : String) (mc ms : Nat) : Prop :=
  MetFree l y (headSpec ws rm) Pc (fun _ _ _ _ _ => True) (fun _ st o t => ∃ x, o = .threw x ∧ st.heap.size ≤ x ∧ Exn E x t ∧ st.WarmedH t.vm ∧ st.sameButNew ({ t with vm := st.vm } : State) [] mc ms)
def MQT (below : List Frame) (E : String) (s : State) (mc ms : Nat) : State → Prop := fun t =>
  ∃ x, t.status = .running ∧ Ended t below (.threw x) ∧ s.heap.size ≤ x ∧ Exn E x t ∧ s.WarmedH t.vm ∧ s.sameButNew ({ t with vm := s.vm } : State) [] mc ms
theorem MetT.ofW {l : Launch} {y : MethodName} {ws ws' : List Cond} {rm : Room} {Pc : Array Value → State → Prop} {E : String} {mc ms : Nat} {cc : ByteArray} {maxL : Nat} {ret : Option FieldType}
    (hy : plainName y.cls = true) (hw : ws = Cond.code y cc maxL ret :: ws')
    (body : ∀ p e s m args below meth c s₁, BodyLoose p l y (headSpec ws rm) cc maxL ret e s m args below meth c s₁ → c.maxLocals = maxL → Pc args s →
      W p l e (headSpec ws rm).room s m args below meth c s.heap [] 0 0 (MQT below E s mc ms) (entryFrame m args maxL)) : MetT l y ws rm Pc E mc ms := by
  refine MetFree.of_bodyS (code := cc) (maxLocals := maxL) (ret := ret) hy ?_ ?_
  · intro args s m h hn
    obtain ⟨meth, c, h1, h2, h3, h4, h5, h6, -, -⟩ := Cond.code_spec hn (atoms_spec (ws := ws) h _ (by rw [hw]; exact List.mem_cons_self))
    exact ⟨meth, c, h1, h2, h3, h4, h5, h6⟩
  · intro p e s m args below meth c s₁ B hml hP _
    have hh0 : s₁.heap = s.heap := by rw [B.state]; rfl
    obtain ⟨t, a1, x, b1, b2, b3⟩ := body p e s m args below meth c s₁ B hml hP s₁ hh0 (Stand.of_body B)
    exact ⟨t, .threw x, a1, b1, b2, x, rfl, b3⟩
/-- what a throw needs beside the good words: words on the tables, two statics, the texts -/
def XT (A : Nat → Prop) (U : State) (H : Heap) : Prop := (∀ w ∈ XW, va_Nw w U) ∧ va_Zq thN "UNASSIGNED_STACK" thU A U H ∧ va_Zq thN "SUPPRESSED_SENTINEL" thL A U H ∧ ∀ q ∈ XS, ∃ a, vk_R "LinkYard" q.1 q.2 a U
def XWok (w : Cond) : Bool := match w with
  | .castable .. => true
  | .declares _ => true
  | _ => false
theorem XW_ok : XW.all XWok = true := by decide +kernel
theorem XW_warm {s U : State} (hW : s.WarmedH U.vm) {w : Cond} (hw : w ∈ XW) (h : va_Nw w s) : va_Nw w U := by
  have h1 := List.all_eq_true.mp XW_ok w hw
  cases w with
  | castable a b => exact va_Nw.warmC hW h
  | declares x => exact va_Nw.warmD hW h
  | _ => cases h1
theorem XT.warm {A : Nat → Prop} {s U : State} {H : Heap} (hW : s.WarmedH U.vm) (h : XT A s H) : XT A U H :=
  ⟨fun w hw => XW_warm hW hw (h.1 w hw), h.2.1.moved hW.alike, h.2.2.1.moved hW.alike, fun q hq => by
    obtain ⟨a, ha⟩ := h.2.2.2 q hq
    exact ⟨a, ha.warm hW⟩⟩
theorem XT.kept {A : Nat → Prop} {U : State} {H H1 : Heap} (h : XT A U H) (hq : ∀ a : Nat, a < H.size → ¬ A a → H1[a]? = H[a]?) : XT A U H1 := ⟨h.1, h.2.1.kept hq, h.2.2.1.kept hq, h.2.2.2⟩
theorem XT.narrow {A B : Nat → Prop} {U : State} {H : Heap} (h : XT A U H) (hAB : ∀ q, B q → A q) : XT B U H := ⟨h.1, h.2.1.narrow hAB, h.2.2.1.narrow hAB, h.2.2.2⟩
theorem va_Zq.isRef {C n d : String} {A : Nat → Prop} {s : State} {args : Array Value} (h : va_Zq C n d A s s.heap) : (Cond.isRef (.static C n d)).before args s = true := by
  rcases h with ⟨cf, kf, fi, f, a, cell, h1, h2, h3, h4, h5, h6, h7, -⟩ | ⟨t, cf, kf, fi, f, a, cell, h1, h2, h3, h4, h5, h6, h7, -⟩
  · simp [Cond.before, Cond.holds, Cond.value, Term.eval, State.fieldNamed?, h1, h2, h4, h5, h6, h7, Value.isRef]
  · simp [Cond.before, Cond.holds, Cond.value, Term.eval, State.fieldNamed?, h1, h2, h4, h5, h6, h7, Value.isRef]
/-- the words of a throw of class E at own's entry i: each is good, or among XW, or on one of the two statics -/
def xok (w : Cond) : Bool := (decide (w ∈ lw_tbl) && goodWord w) || (decide (w ∈ XW) || (decide (w = .isRef (.static thN "UNASSIGNED_STACK" thU)) || decide (w = .isRef (.static thN "SUPPRESSED_SENTINEL" thL))))
theorem xok_all {own E : String} {i : Nat} {names : List String} (h : (Bundle.ownAtoms own i E names).all xok = true) {A : Nat → Prop} {s : State} {args : Array Value} (hts : ∀ w ∈ ALLW, w.before args s = true) (hx : XT A s s.heap) : ∀ w ∈ Bundle.ownAtoms own i E names, w.before args s = true := by
  intro w hw
  have h1 := List.all_eq_true.mp h w hw
  unfold xok at h1
  rw [Bool.or_eq_true, Bool.or_eq_true, Bool.or_eq_true, Bool.and_eq_true, decide_eq_true_eq, decide_eq_true_eq, decide_eq_true_eq, decide_eq_true_eq] at h1
  rcases h1 with h1 | h1 | h1 | h1
  · exact hts w (List.mem_filter.mpr h1)
  · have h2 := List.all_eq_true.mp XW_ok w h1
    have h3 := hx.1 w h1
    cases w with
    | castable a b => exact va_Nw.use rfl h3
    | declares x => exact va_Nw.use rfl h3
    | _ => cases h2
  · rw [h1]; exact hx.2.1.isRef
  · rw [h1]; exact hx.2.2.1.isRef
/-- a walk whose end is a throw of E: nothing of what was there is written -/
def YTx (C : YC) (E : String) : Prop := C.Q = MQT C.below E C.s 1 6 ∧ C.k = 0 ∧ C.n = 0 ∧ NoTr C.l ∧ C.c.exceptionTable.isEmpty = true ∧ (∀ q, C.A q → C.s.heap.size ≤ q) ∧ ∃ A, XT A C.s C.s.heap ∧ ∀ q, C.s.heap.size ≤ q → A q
/-- the words of one throw -/
def TOk (own E : String) (i1 i3 : Nat) (names : List String) : Prop := Cond.classLink own i1 E ∈ ALLW ∧ Cond.instantiable E 6 ∈ ALLW ∧ Cond.initialized E ∈ ALLW ∧ Bundle.fit E = true ∧ (∀ n ∈ names, Bundle.fit n = true) ∧ (Bundle.ownAtoms own i3 E names).all xok = true
section YTh
variable {C : YC} {own : String} {cc : ByteArray} {nL pc : Nat} {rm : Room} {shp : List Shp} {L : List (Nat × Value)} {st : List Value} {V : Sto}
theorem Y_throwW {i1 i2 i3 len : Nat} {E tx : String} {names : List String} (hC : YF C own cc nL rm) (hT : YTx C E) (hO : TOk own E i1 i3 names) (hs : (i2, tx) ∈ XS) (ho : own = "LinkYard")
    (hroom : names.length + 3 < rm.frames ∧ 13 * (names.length + 1) + 50 ≤ rm.locals ∧ 1 ≤ rm.cells ∧ 6 ≤ rm.slots)
    (d0 : decode cc pc = .ok (.new i1, 3)) (d1 : decode cc (pc + 3) = .ok (.dup, 1)) (d2 : (decode cc (pc + 4) = .ok (.ldc i2, 2) ∧ len = 2) ∨ (decode cc (pc + 4) = .ok (.ldc_w i2, 3) ∧ len = 3)) (d3 : decode cc (pc + 4 + len) = .ok (.invokespecial i3, 3)) (d4 : decode cc (pc + 4 + len + 3) = .ok (.athrow, 1)) : Y C shp nL pc L [] V := by
  obtain ⟨hx, hb, hml, hown, hts, hK, hlk, hR, hA, hk1, hk2⟩ := hC
  obtain ⟨hQ, hk0, hn0, htr, het, hAf, A, hXT, hAA⟩ := hT
  obtain ⟨hcl, hinst, hini, hfE, hfn, hat⟩ := hO
  obtain ⟨q, hq⟩ := hXT.2.2.2 _ hs
  rw [← ho] at hq
  intro H locs ls hP hD hS hl
  refine va_forget (fun q hq => hAf _ (hS.2.2 q hq)) ?_
  refine W.newc hx hb hown (hts _ hcl) (hts _ hinst) (hts _ hini) rfl d0 (by rw [hk0, hR]; exact hroom.2.2.1) (by rw [hn0, hR]; omega) (fun cC kC h1 h2 h3 h4 => ?_)
  refine lv_dup hx hb d1 rfl ?_
  have key : W C.p C.l C.e C.R C.s C.m C.args C.below C.meth C.c (H.push { cls := cC, slots := kC.instanceTypes.map defaultValue, vm := .none }) [] (C.k + 1) (C.n + 6) C.Q (F0 C.m (pc + 4 + len) ls [.ref q, .ref H.size, .ref H.size]) := by
    intro T hT X
    obtain ⟨U, stp, hrun, hend, hWU, hsame, ce, hce, hoc⟩ := X.ctorThrowS hx (htr _ X.admits) hown hfE hfn (xok_all hat hts hXT) (fun x h => by cases h) h1 h2 (a := H.size) (by rw [hT]; simp [freshCell]) hS.1 (msg := .ref q) rfl
      (g := F0 C.m (pc + 4 + len) ls [.ref q, .ref H.size, .ref H.size]) rfl (by rw [hml]; exact hl.1) rfl rfl (rest := []) rfl (by rw [hb]; exact d3) (by rw [hb]; exact d4)
      (fun x hxm => by
        have he : C.c.exceptionTable.toList = [] := by
          have := het
          rw [Array.isEmpty_iff] at this
          rw [this]
        rw [he] at hxm
        cases hxm)
      (by rw [hR]; exact hroom.1) (by
        rw [hR]
        show 2 * 0 + 1 + _ ≤ _
        omega) hlk
    refine ⟨U, stp, ?_⟩
    rw [hQ]
    refine ⟨H.size, hrun, hend, hS.1, ⟨ce, hce, ?_, hoc.vm, ?_⟩, hWU, ?_⟩
    · rw [hWU.alike.findClass]; exact hoc.cls
    · have hcc : cC = ce.cls := Option.some.inj (h1.symm.trans hoc.cls)
      obtain ⟨k', hk', -⟩ := hWU.alike.2.2 _ _ h2
      exact ⟨k', by rw [← hcc]; exact hk'⟩
    · have := hsame
      rw [hk0, hn0] at this
      exact this
  rcases d2 with ⟨d2, rfl⟩ | ⟨d2, rfl⟩
  · exact va_ldcS hx hb hown hq d2 key
  · intro T hT X
    obtain ⟨t, a1, b1⟩ := key T hT X
    exact ⟨t, X.ldcStringW hx hown (text := tx) (a := q) hq.1 hq.2 (g := F0 C.m (pc + 3 + 1) ls [.ref H.size, .ref H.size]) rfl (by rw [hb]; exact d2) t a1, b1⟩
end YTh
