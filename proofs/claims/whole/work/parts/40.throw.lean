/-! Methods that throw: their contracts (YMt), the row of 'throw new E(text)', and a call that throws. -/
/-- the launch makes no stack traces -/
def NoTr (l : Launch) : Prop := ∀ e : Env, l.admits e → e.platform.stackTraces = false
abbrev thN : String := "java/lang/Throwable"
abbrev thU : String := "[Ljava/lang/StackTraceElement;"
abbrev thL : String := "Ljava/util/List;"
/-- an exception of class E -/
def Exn (E : String) (x : Addr) (t : State) : Prop := ∃ ce : Cell, t.heap[x]? = some ce ∧ t.vm.findClass E = some ce.cls ∧ ce.vm = .none ∧ ∃ k : Class, t.vm.classes[ce.cls]? = some k
def MetT (l : Launch) (y : MethodName) (ws : List Cond) (rm : Room) (Pc : Array Value → State → Prop) (E : String) (mc ms : Nat) : Prop :=
  MetFree l y (headSpec ws rm) Pc (fun _ _ _ _ _ => True) (fun _ st o t => ∃ x, o = .threw x ∧ st.heap.size ≤ x ∧ Exn E x t ∧ st.WarmedH t.vm ∧ st.sameButNew ({ t with vm := st.vm } : State) [] mc ms)
def MQT (below : List Frame) (E : String) (s : State) (mc ms : Nat) : State → Prop := fun t =>
  ∃ x, t.status = .running ∧ Ended t below (.threw x) ∧ s.heap.size ≤ x ∧ Exn E x t ∧ s.WarmedH t.vm ∧ s.sameButNew ({ t with vm := s.vm } : State) [] mc ms
theorem MetT.ofW {l : Launch} {y : MethodName} {ws ws' : List Cond} {rm : Room} {Pc : Array Value → State → Prop} {E : String} {mc ms : Nat} {cc : ByteArray} {maxL : Nat} {ret : Option FieldType}
    (hy : plainName y.cls = true) (hw : ws = Cond.code y cc maxL ret :: ws')
    (body : ∀ p e s m args below meth c s₁, BodyLoose p l y (headSpec ws rm) cc maxL ret e s m args below meth c s₁ → c.maxLocals = maxL → Pc args s →
      W p l e (headSpec ws rm).room s m args below meth c s.heap [] 0 0 (MQT below E s mc ms) (entryFrame m args maxL)) : MetT l y ws rm Pc E mc ms := by
  refine MetFree.of_bodyS (code := cc) (maxLocals := maxL) (ret := ret) hy ?_ ?_
  · intro args s m h hn
    obtain ⟨meth, c, h1, h2, h3, h4, h5, h6, -, -⟩ := Cond.code_spec hn (atoms_spec (ws := ws) h _ (by rw [hw]; exact List.mem_cons_self))
    exact ⟨meth, c, h1, h2, h3, h4, h5, h6⟩
  · intro p e s m args below meth c s₁ B hml hP _
    have hh0 : s₁.heap = s.heap := by rw [B.state]; rfl
    obtain ⟨t, a1, x, b1, b2, b3⟩ := body p e s m args below meth c s₁ B hml hP s₁ hh0 (Stand.of_body B)
    exact ⟨t, .threw x, a1, b1, b2, x, rfl, b3⟩
/-- a static that holds a reference or null, in a cell that A has not -/
def ZS (C n d : String) (A : Nat → Prop) (U : State) (H : Heap) : Prop := ∃ (cf : ClassId) (kf : Class) (fi : Nat) (f : Field) (a : Nat) (cell : Cell) (v : Value), U.vm.findClass C = some cf ∧ U.fieldFound? C n d = some (cf, kf, fi, f) ∧ f.isStatic = true ∧ kf.statics = some a ∧ H[a]? = some cell ∧ cell.vm.isStatics = true ∧ cell.cls = cf ∧ f.slot < cell.slots.size ∧ kf.staticTypes[f.slot]? = some f.type ∧ cell.slots[f.slot]? = some v ∧ v.isRef = true ∧ ¬ A a
theorem ZS.moved {C n d : String} {A : Nat → Prop} {u U : State} {H : Heap} (hvm : u.vm.Alike U.vm) (h : ZS C n d A u H) : ZS C n d A U H := by
  obtain ⟨cf, kf, fi, f, a, cell, v, h0, h1, h2, h3, h4, h5, h6, h7, h8, h9⟩ := h
  obtain ⟨k', hi', he⟩ := State.fieldFound?_setVm hvm h1
  exact ⟨cf, k', fi, f, a, cell, v, by rw [hvm.findClass]; exact h0, hi', h2, by rw [he]; exact h3, h4, h5, h6, h7, by rw [he]; exact h8, h9⟩
theorem ZS.kept {C n d : String} {A : Nat → Prop} {U : State} {H H1 : Heap} (h : ZS C n d A U H) (hq : ∀ a : Nat, a < H.size → ¬ A a → H1[a]? = H[a]?) : ZS C n d A U H1 := by
  obtain ⟨cf, kf, fi, f, a, cell, v, h0, h1, h2, h3, h4, h5, h6, h7, h8, h9, h10, h11⟩ := h
  exact ⟨cf, kf, fi, f, a, cell, v, h0, h1, h2, h3, by rw [hq a (Array.getElem?_eq_some_iff.mp h4).1 h11]; exact h4, h5, h6, h7, h8, h9, h10, h11⟩
theorem ZS.narrow {C n d : String} {A B : Nat → Prop} {U : State} {H : Heap} (h : ZS C n d A U H) (hAB : ∀ q, B q → A q) : ZS C n d B U H := by
  obtain ⟨cf, kf, fi, f, a, cell, v, h0, h1, h2, h3, h4, h5, h6, h7, h8, h9, h10, h11⟩ := h
  exact ⟨cf, kf, fi, f, a, cell, v, h0, h1, h2, h3, h4, h5, h6, h7, h8, h9, h10, fun z => h11 (hAB a z)⟩
theorem ZS.of {C n d : String} {A : Nat → Prop} {s : State} {args : Array Value} (hl : (Cond.laysStatic C n d).before args s = true) (hr : (Cond.isRef (.static C n d)).before args s = true) (hA : ∀ a : Nat, a < s.heap.size → ¬ A a) : ZS C n d A s s.heap := by
  obtain ⟨c, k, i, f, a, cell, hc, hi, hst, ha, hcell, hs, hcls, hlt, hty⟩ := Cond.laysStatic_spec hl
  obtain ⟨v, hslot⟩ : ∃ v, cell.slots[f.slot]? = some v := ⟨_, Array.getElem?_eq_getElem hlt⟩
  have hev : (Term.static C n d).eval args s none [] s = some v := by
    simp [Term.eval, State.fieldNamed?, hi, hst, ha, hcell, hs, hslot]
  refine ⟨c, k, i, f, a, cell, v, hc, hi, hst, ha, hcell, hs, hcls, hlt, hty, hslot, ?_, hA a (Array.getElem?_eq_some_iff.mp hcell).1⟩
  simp only [Cond.before, Cond.holds, Cond.value, hev] at hr
  cases v <;> simp_all [Value.isRef]
theorem ZS.isRef {C n d : String} {A : Nat → Prop} {s : State} {args : Array Value} (h : ZS C n d A s s.heap) : (Cond.isRef (.static C n d)).before args s = true := by
  obtain ⟨cf, kf, fi, f, a, cell, v, h0, h1, h2, h3, h4, h5, h6, h7, h8, h9, h10, h11⟩ := h
  have hev : (Term.static C n d).eval args s none [] s = some v := by
    simp [Term.eval, State.fieldNamed?, h1, h2, h3, h4, h5, h9]
  simp only [Cond.before, Cond.holds, Cond.value, hev]
  cases v <;> simp_all [Value.isRef]
theorem ZS.lays {C n d : String} {A : Nat → Prop} {s : State} {args : Array Value} (h : ZS C n d A s s.heap) : (Cond.laysStatic C n d).before args s = true := by
  obtain ⟨cf, kf, fi, f, a, cell, v, h0, h1, h2, h3, h4, h5, h6, h7, h8, h9, h10, h11⟩ := h
  simp [Cond.before, Cond.holds, Cond.value, h0, h1, h2, h3, h4, h5, h6, h7, h8]
/-- what a throw needs beside the good words: words on the tables, two statics, the texts -/
def XT (A : Nat → Prop) (U : State) (H : Heap) : Prop := (∀ w ∈ XW, va_Nw w U) ∧ ZS thN "UNASSIGNED_STACK" thU A U H ∧ ZS thN "SUPPRESSED_SENTINEL" thL A U H ∧ ∀ q ∈ XS, ∃ a, vk_R "LinkYard" q.1 q.2 a U
def XWok (w : Cond) : Bool := match w with
  | .castable .. => true
  | .declares _ => true
  | _ => false
theorem XW_ok : XW.all XWok = true := by decide +kernel
theorem XW_warm {s U : State} (hW : s.WarmedH U.vm) {w : Cond} (hw : w ∈ XW) (h : va_Nw w s) : va_Nw w U := by
  have h1 := List.all_eq_true.mp XW_ok w hw
  cases w with
  | castable a b => exact va_Nw.warmC hW h
  | declares x => exact va_Nw.warmD hW h
  | _ => cases h1
theorem XW_same {u U : State} {w : Cond} (hw : w ∈ XW) (hv : u.vm = U.vm) (h : va_Nw w u) : va_Nw w U := by
  have h1 := List.all_eq_true.mp XW_ok w hw
  cases w with
  | castable a b => exact va_Nw.same rfl hv h
  | declares x => exact va_Nw.same rfl hv h
  | _ => cases h1
theorem XT.warm {A : Nat → Prop} {s U : State} {H : Heap} (hW : s.WarmedH U.vm) (h : XT A s H) : XT A U H :=
  ⟨fun w hw => XW_warm hW hw (h.1 w hw), h.2.1.moved hW.alike, h.2.2.1.moved hW.alike, fun q hq => by
    obtain ⟨a, ha⟩ := h.2.2.2 q hq
    exact ⟨a, ha.warm hW⟩⟩
theorem XT.kept {A : Nat → Prop} {U : State} {H H1 : Heap} (h : XT A U H) (hq : ∀ a : Nat, a < H.size → ¬ A a → H1[a]? = H[a]?) : XT A U H1 := ⟨h.1, h.2.1.kept hq, h.2.2.1.kept hq, h.2.2.2⟩
theorem XT.narrow {A B : Nat → Prop} {U : State} {H : Heap} (h : XT A U H) (hAB : ∀ q, B q → A q) : XT B U H := ⟨h.1, h.2.1.narrow hAB, h.2.2.1.narrow hAB, h.2.2.2⟩
/-- the words of a throw of class E at own's entry i: each is good, or among XW, or on one of the two statics -/
def xok (w : Cond) : Bool := (decide (w ∈ lw_tbl) && goodWord w) || (decide (w ∈ XW) || (decide (w = .isRef (.static thN "UNASSIGNED_STACK" thU)) || (decide (w = .isRef (.static thN "SUPPRESSED_SENTINEL" thL)) || (decide (w = .laysStatic thN "UNASSIGNED_STACK" thU) || decide (w = .laysStatic thN "SUPPRESSED_SENTINEL" thL)))))
theorem xok_all {own E : String} {i : Nat} {names : List String} (h : (Bundle.ownAtoms own i E names).all xok = true) {A : Nat → Prop} {s : State} {args : Array Value} (hts : ∀ w ∈ ALLW, w.before args s = true) (hx : XT A s s.heap) : ∀ w ∈ Bundle.ownAtoms own i E names, w.before args s = true := by
  intro w hw
  have h1 := List.all_eq_true.mp h w hw
  unfold xok at h1
  simp only [Bool.or_eq_true, Bool.and_eq_true, decide_eq_true_eq] at h1
  rcases h1 with h1 | h1 | h1 | h1 | h1 | h1
  · exact hts w (List.mem_filter.mpr h1)
  · have h2 := List.all_eq_true.mp XW_ok w h1
    have h3 := hx.1 w h1
    cases w with
    | castable a b => exact va_Nw.use rfl h3
    | declares x => exact va_Nw.use rfl h3
    | _ => cases h2
  · rw [h1]; exact hx.2.1.isRef
  · rw [h1]; exact hx.2.2.1.isRef
  · rw [h1]; exact hx.2.1.lays
  · rw [h1]; exact hx.2.2.1.lays
/-- a walk whose end is a throw of E: nothing of what was there is written -/
def YTx (C : YC) (shp : List Shp) (E : String) : Prop := C.Q = MQT C.below E C.s 1 6 ∧ C.k = 0 ∧ C.n = 0 ∧ NoTr C.l ∧ C.c.exceptionTable.isEmpty = true ∧ (∀ q, C.A q → C.s.heap.size ≤ q) ∧ ∃ A, XT A C.s C.s.heap ∧ (∀ q, C.s.heap.size ≤ q → A q) ∧ ∀ k, k < shp.length → A (C.a k)
/-- the words of one throw -/
def TOk (own E : String) (i1 i3 : Nat) (names : List String) : Prop := Cond.classLink own i1 E ∈ ALLW ∧ Cond.instantiable E 6 ∈ ALLW ∧ Cond.initialized E ∈ ALLW ∧ Bundle.fit E = true ∧ (∀ n ∈ names, Bundle.fit n = true) ∧ (Bundle.ownAtoms own i3 E names).all xok = true
section YTh
variable {C : YC} {own : String} {cc : ByteArray} {nL pc : Nat} {rm : Room} {shp : List Shp} {L : List (Nat × Value)} {st : List Value} {V : Sto}
theorem Y_throwW {i1 i2 i3 len : Nat} {E tx : String} {names : List String} (hC : YF C own cc nL rm) (hT : YTx C shp E) (hO : TOk own E i1 i3 names) (hs : (i2, tx) ∈ XS) (ho : own = "LinkYard")
    (hroom : names.length + 3 < rm.frames ∧ 13 * (names.length + 1) + 50 ≤ rm.locals ∧ 1 ≤ rm.cells ∧ 6 ≤ rm.slots)
    (d0 : decode cc pc = .ok (.new i1, 3)) (d1 : decode cc (pc + 3) = .ok (.dup, 1)) (d2 : (decode cc (pc + 4) = .ok (.ldc i2, 2) ∧ len = 2) ∨ (decode cc (pc + 4) = .ok (.ldc_w i2, 3) ∧ len = 3)) (d3 : decode cc (pc + 4 + len) = .ok (.invokespecial i3, 3)) (d4 : decode cc (pc + 4 + len + 3) = .ok (.athrow, 1)) : Y C shp nL pc L [] V := by
  obtain ⟨hx, hb, hml, hown, hts, hK, hlk, hR, hA, hk1, hk2⟩ := hC
  obtain ⟨hQ, hk0, hn0, htr, het, hAf, A, hXT, hAA, hAk⟩ := hT
  obtain ⟨hcl, hinst, hini, hfE, hfn, hat⟩ := hO
  obtain ⟨q, hq⟩ := hXT.2.2.2 _ hs
  rw [← ho] at hq
  intro H locs ls hP hD hS hl
  refine va_forget (fun q hq => hAf _ (hS.2.2 q hq)) ?_
  refine W.newc hx hb hown (hts _ hcl) (hts _ hinst) (hts _ hini) rfl d0 (by rw [hk0, hR]; exact hroom.2.2.1) (by rw [hn0, hR]; omega) (fun cC kC h1 h2 h3 h4 => ?_)
  refine lv_dup hx hb d1 rfl ?_
  have key : W C.p C.l C.e C.R C.s C.m C.args C.below C.meth C.c (H.push { cls := cC, slots := kC.instanceTypes.map defaultValue, vm := .none }) [] (C.k + 1) (C.n + 6) C.Q (F0 C.m (pc + 4 + len) ls [.ref q, .ref H.size, .ref H.size]) := by
    intro T hT X
    obtain ⟨U, stp, hrun, hend, hWU, hsame, ce, hce, hoc⟩ := X.ctorThrowS hx (htr _ X.admits) hown hfE hfn (xok_all hat hts hXT) (fun x h => by cases h) h1 h2 (a := H.size) (by rw [hT]; simp [freshCell]) hS.1 (msg := .ref q) rfl
      (g := F0 C.m (pc + 4 + len) ls [.ref q, .ref H.size, .ref H.size]) rfl (by rw [hml]; exact hl.1) rfl rfl (rest := []) rfl (by rw [hb]; exact d3) (by rw [hb]; exact d4)
      (fun x hxm => by
        have he : C.c.exceptionTable.toList = [] := by
          have := het
          rw [Array.isEmpty_iff] at this
          rw [this]
        rw [he] at hxm
        cases hxm)
      (by rw [hR]; exact hroom.1) (by
        rw [hR]
        show 2 * 0 + 1 + _ ≤ _
        omega) hlk
    refine ⟨U, stp, ?_⟩
    rw [hQ]
    refine ⟨H.size, hrun, hend, hS.1, ⟨ce, hce, ?_, hoc.vm, ?_⟩, hWU, ?_⟩
    · rw [hWU.alike.findClass]; exact hoc.cls
    · have hcc : cC = ce.cls := Option.some.inj (h1.symm.trans hoc.cls)
      obtain ⟨k', hk', -⟩ := hWU.alike.2.2 _ _ h2
      exact ⟨k', by rw [← hcc]; exact hk'⟩
    · have := hsame
      rw [hk0, hn0] at this
      exact this
  rcases d2 with ⟨d2, rfl⟩ | ⟨d2, rfl⟩
  · exact va_ldcS hx hb hown hq d2 key
  · intro T hT X
    obtain ⟨t, a1, b1⟩ := key T hT X
    exact ⟨t, X.ldcStringW hx hown (text := tx) (a := q) hq.1 hq.2 (g := F0 C.m (pc + 3 + 1) ls [.ref H.size, .ref H.size]) rfl (by rw [hb]; exact d2) t a1, b1⟩
end YTh
section CT
variable {p : Program} {l : Launch} {e : Env} {R : Room} {s : State} {m : MethodId} {args : Array Value} {below : List Frame} {meth : Method} {c : Code} {T : State} {locs : List Loc} {cells slots : Nat}
/-- a call of a method that throws: the walk stands under the note of the exception -/
theorem callT_core (X : Stand p l e R s m args below meth c T locs cells slots) (hexec : p.tables.exec = Jvm.exec) {own : String} {index : Nat} {y : MethodName} {bytes : ByteArray} {maxL : Nat} {ret : Option FieldType}
    (hown : s.vm.findClass own = some m.cls) (hlink : (Cond.methodLink own index y).before args s = true) (hinst : (Cond.instanceMethod y).before args s = true) (hsel : (Cond.selects y.cls y y).before args s = true)
    (hcode : (Cond.code y bytes maxL ret).before args s = true) (hy : y.cls ≠ "java/lang/invoke/MethodHandle" ∧ y.cls ≠ "java/lang/invoke/VarHandle")
    {ws : List Cond} {rm : Room} {Pc : Array Value → State → Prop} {E : String} {mc ms : Nat} (hM : MetT l y ws rm Pc E mc ms) (hblind : FrameBlind Pc) (hrc : rm.cells = mc) (hrs : rm.slots = ms)
    (hframes : rm.frames + 1 ≤ R.frames) (hlocals : 8 + (maxL + 11) + rm.locals ≤ R.locals) (hws : ∀ w ∈ ws, ∀ (a' : Array Value) (U : State), s.WarmedH U.vm → w.before a' U = true) (hcw : Cond.code y bytes maxL ret ∈ ws) (hini : ∀ (a' : Array Value) (U : State), s.WarmedH U.vm → (Cond.initialized y.cls).before a' U = true)
    {b : Addr} {cellB : Cell} (hcell : T.heap[b]? = some cellB) (hobj : cellB.vm.isStatics = false) (hcls : s.vm.findClass y.cls = some cellB.cls)
    {g : JFrame} (hg : g.method = m) (hsize : g.locals.size = c.maxLocals) {argsL rest : List Value} (hlen : ∀ sig, parseMethodDescriptor y.desc = some sig → argsL.length = sig.parameters.length)
    (hstack : g.stack = argsL.reverse ++ .ref b :: rest) (hWt : 2 * g.monitorRoom + (rest.map fun v => v.category).sum ≤ 8) (hdg : decode c.code g.pc = .ok (.invokevirtual index, 3)) (hf : cells + mc ≤ R.cells ∧ slots + ms ≤ R.slots)
    (hpre : ∀ U : State, U.heap = T.heap → s.WarmedH U.vm → Pc (Value.ref b :: argsL).toArray U) :
    ∃ (x : Addr) (T' : State), Stand p l e R s m args below meth c T' locs (cells + mc) (slots + ms) ∧ T.heap.size ≤ x ∧ Exn E x T' ∧ (∀ (q : Addr) (cell : Cell), T.heap[q]? = some cell → T'.heap[q]? = some cell) ∧
      ∀ target, Steps p.tables e below ((T'.setTop { g with stack := rest }).pushFrame (.throwing x)) target → Steps p.tables e below (T.setTop g) target := by
  obtain ⟨mk, methM, hnamed, hmethM, hstM, habM⟩ := Cond.instanceMethod_spec hinst
  obtain ⟨methM', cM, hmethM', -, -, -, -, -, -, hsigM⟩ := Cond.code_spec hnamed hcode
  cases hmethM.symm.trans hmethM'
  obtain ⟨c2, r2, m2, q1, q2, q3, q4, kP, hkP, hkPi⟩ := Cond.selects_spec hsel
  cases hcls.symm.trans q1
  cases (State.methodFound?_of_named hnamed hy).symm.trans q2
  cases hnamed.symm.trans q3
  have hselP : selectMethod e.platform s.vm cellB.cls mk = .method mk := by rw [Launch.admits_selectMethod X.admits]; exact q4
  obtain ⟨vm₁, X₁, hstep₁⟩ := X.invokevirtual hexec hown hlink hnamed hmethM hstM hkP hkPi hy (a := b) (cell := cellB) hcell
    (fun z h => by rw [h] at hobj; cases hobj) hselP hmethM habM hkP hkPi (g := g) hg (argsL := argsL) (rest := rest) (hlen _ hsigM) hstack hdg
  have hn : (T.setVm vm₁).methodNamed? y = some mk := X₁.named hnamed
  have hW₁ : s.WarmedH (T.setVm vm₁).vm := X₁.warmed
  obtain ⟨methY, cY, hmY, hcY, -, hlY, -⟩ := Cond.code_spec hn (hws _ hcw (Value.ref b :: argsL).toArray _ hW₁)
  obtain ⟨kY, hkY, -⟩ := className_of_methodNamed hn
  have hinitY : kY.init = .initialized := Cond.initialized_spec (findClass_of_methodNamed hn) hkY (hini (Value.ref b :: argsL).toArray _ hW₁)
  have h : At (T.setVm vm₁) ({ g with stack := rest } : JFrame).method c below := by
    show At (T.setVm vm₁) g.method c below
    rw [hg]; exact X₁.here
  have happ : (headSpec ws rm).appliesLoose y e.platform ((T.setVm vm₁).calling { g with stack := rest } mk (Value.ref b :: argsL).toArray) = true :=
    Spec.appliesLoose_calling (g := { g with stack := rest }) h hdg hn hkY hinitY
      (X₁.room_calling (g := { g with stack := rest }) (R' := rm) hsize hmY hcY hframes (by show 2 * g.monitorRoom + (rest.map fun v => v.category).sum + (cY.maxLocals + 11) + rm.locals ≤ R.locals; rw [hlY]; omega) (by rw [hrc]; exact hf.1) (by rw [hrs]; exact hf.2)) (atoms_intro fun w hw => hws w hw _ _ hW₁)
  obtain ⟨mid, hmid⟩ := h.above
  have hfr : ((T.setVm vm₁).setTop { g with stack := rest }).frames = (.java { g with stack := rest } :: mid) ++ below := by rw [State.frames_setTop' _ h.top, hmid]; rfl
  obtain ⟨o, s₂, hsteps, -, hend, hq⟩ := Steps.callFree hM p X.admits X.cas X.clock (acts := []) hfr happ (hblind _ _ _ _ (hpre (T.setVm vm₁) rfl hW₁)) trivial
  obtain ⟨x, rfl, hx1, hx2, hWs, hsame⟩ := hq
  rw [State.frames_setTop' _ h.top, X₁.tail] at hend
  obtain ⟨T', X', hWT, hsameT, ht⟩ := X₁.outOfThrown (g := { g with stack := rest }) hg hend hWs hsame
  refine ⟨x, T', by simpa using X', hx1, ?_, fun q cell hq => ?_, fun target hrest => hstep₁ _ fun acts => ?_⟩
  · obtain ⟨ce, e1, e2, e3, k, e4⟩ := hx2
    rw [ht, Stand.throwing_heap] at e1
    rw [ht, Stand.throwing_vm] at e2 e4
    exact ⟨ce, e1, e2, e3, k, e4⟩
  · exact hsameT.old_cell (s := T.setVm vm₁) hq
  · rw [doInvoke_state]
    rw [ht] at hsteps
    exact hsteps.trans hrest
end CT
/-! contracts of a graph's methods that throw -/
def YPcT (D : va_G) (cI cZ : ClassId) (a : Nat → Nat) (shp : List Shp) (av : List Value) (V : Sto) (sz : Nat) : Array Value → State → Prop := va_Pc av (fun U => U.heap.size = sz ∧ YWd D cI cZ a shp V U ∧ XT (RA true a shp.length sz) U U.heap)
def YMt (l : Launch) (D : va_G) (cI cZ : ClassId) (a : Nat → Nat) (shp : List Shp) (y : MethodName) (cc : ByteArray) (maxL : Nat) (ret : Option FieldType) (rm : Room) (av : List Value) (V : Sto) (E : String) : Prop :=
  ∀ sz : Nat, MetT l y (Cond.code y cc maxL ret :: ALLW) rm (YPcT D cI cZ a shp av V sz) E 1 6
theorem YPcT_blind {D : va_G} {cI cZ : ClassId} {a : Nat → Nat} {shp : List Shp} {av : List Value} {V : Sto} {sz : Nat} : FrameBlind (YPcT D cI cZ a shp av V sz) := fun v U g mk q => by
  obtain ⟨q0, q1, ⟨qP, qK, qD⟩, qX⟩ := q
  refine ⟨q0, q1, ⟨qP, va_K.moved (u := U) (U := U.calling g mk v) (Vm.Alike.refl U.vm) qK, qD⟩, ?_⟩
  exact ⟨fun w hw => XW_same (u := U) hw rfl (qX.1 w hw), qX.2.1.moved (Vm.Alike.refl U.vm), qX.2.2.1.moved (Vm.Alike.refl U.vm), fun q hq => by
    obtain ⟨a, ha⟩ := qX.2.2.2 q hq
    exact ⟨a, vk_R.same rfl ha⟩⟩
theorem YMt_of {l : Launch} {D : va_G} {cI cZ : ClassId} {a : Nat → Nat} {shp : List Shp} {y : MethodName} {cc : ByteArray} {maxL : Nat} {ret : Option FieldType} {rm : Room} {av : List Value} {V : Sto} {E : String} (hn : NoTr l) (hy : plainName y.cls = true) (hlen : (lg_sl av).length ≤ maxL)
    (body : ∀ C : YC, C.l = l → C.D = D → C.cI = cI → C.cZ = cZ → C.a = a → YF C y.cls cc maxL rm → YTx C shp E → Y C shp maxL 0 (lv_args 0 av) [] V) : YMt l D cI cZ a shp y cc maxL ret rm av V E := by
  intro sz
  refine MetT.ofW (cc := cc) (maxL := maxL) (ret := ret) hy rfl ?_
  intro p e s m args below meth c s₁ B hml hv
  obtain ⟨rfl, hsz, ⟨hP, hK, hD0⟩, hXT⟩ := hv
  subst hsz
  have hts0 := atoms_spec (ws := Cond.code y cc maxL ret :: ALLW) B.pre
  have hb := body ((p, l, e, (headSpec (Cond.code y cc maxL ret :: ALLW) rm).room, s), (m, av.toArray, below, meth, c), (D, cI, cZ), (a, fun q => s.heap.size ≤ q), (0, 0), MQT below E s 1 6) rfl rfl rfl rfl rfl
    ⟨B.exec, B.bytes, hml, findClass_of_methodNamed B.named, fun w hw => hts0 w (List.mem_cons_of_mem _ hw), hK, B.notSynchronized, rfl, fun q h => h, Nat.zero_le _, Nat.zero_le _⟩
    ⟨rfl, rfl, rfl, hn, B.noHandlers (hts0 _ List.mem_cons_self), fun q h => h, _, hXT, fun q h => Or.inr h, fun k hk => Or.inl ⟨rfl, k, hk, rfl⟩⟩
  have hl := lv_entry av (n := maxL) hlen
  rw [lg_entry_eq]
  exact hb s.heap [] _ hP hD0 va_S.rf hl
section YCt
variable {C : YC} {own : String} {cc : ByteArray} {nL pc : Nat} {rm : Room} {shp : List Shp} {L : List (Nat × Value)} {st : List Value} {V : Sto}
theorem Y_callT {idx k ci N : Nat} {y : MethodName} {cc' : ByteArray} {maxL' : Nat} {ret' : Option FieldType} {rm' : Room} {As rest : List Value} {T : u_T} {fs : List (Option Nat)} {E : String} (hC : YF C own cc nL rm) (hT : YTx C shp E) (hM : YMt C.l C.D C.cI C.cZ C.a shp y cc' maxL' ret' rm' (.ref (C.a k) :: As) V E)
    (hs : shp[k]? = some (.inl (ci, fs))) (hc : classes[ci]? = some (y.cls, T, N)) (hm : MLb own idx y cc' maxL' ret' As.length) (hv : MLv y) (hroom : (rm'.frames + 1 ≤ rm.frames ∧ 8 + (maxL' + 11) + rm'.locals ≤ rm.locals) ∧ rm'.cells = 1 ∧ rm'.slots = 6 ∧ 1 ≤ rm.cells ∧ 6 ≤ rm.slots)
    (hcat : (rest.map fun v => v.category).sum ≤ 8) (hst : st = As.reverse ++ .ref (C.a k) :: rest) (d : decode cc pc = .ok (.invokevirtual idx, 3)) : Y C shp nL pc L st V := by
  have hC' := hC
  obtain ⟨hx, hb, hml, hown, hts, hK, hlk, hR, hA, hk1, hk2⟩ := hC'
  obtain ⟨hQ, hk0, hn0, htr, het, hAf, A, hXT, hAA, hAk⟩ := hT
  subst hst
  intro H locs ls hP hD hS hl
  refine va_forget (fun q hq => hAf _ (hS.2.2 q hq)) ?_
  obtain ⟨cellB, hcB, hoB, hclB⟩ := Y_recv hC hs hc hP
  intro T hT X
  have hXH : XT A C.s H := hXT.kept (fun q h1 h2 => hS.2.1 q h1 (fun z => Nat.not_le.mpr h1 (hAf q z)))
  obtain ⟨x, T', X', hx1, hx2, hold, hstp⟩ := callT_core X hx hown (hts _ hm.2.1) (hts _ hv.1) (hts _ hv.2) (hts _ hm.1) ⟨hm.2.2.2.1, hm.2.2.2.2.1⟩ (hM H.size) YPcT_blind hroom.2.1 hroom.2.2.1
    (by rw [hR]; exact hroom.1.1) (by rw [hR]; exact hroom.1.2) (pay_in hts (gd_code hm.1)) List.mem_cons_self (fun a' U hW => word_at hW (goodAll _ hm.2.2.1) (hts _ hm.2.2.1))
    (b := C.a k) (cellB := cellB) (by rw [hT]; exact hcB) hoB hclB (g := F0 C.m pc ls (As.reverse ++ .ref (C.a k) :: rest)) rfl (by rw [hml]; exact hl.1) (argsL := As) (rest := rest)
    (fun sig h => by
      have h2 := hm.2.2.2.2.2
      rw [h] at h2
      exact (Option.some.inj h2).symm) rfl (by show 2 * 0 + _ ≤ 8; omega) (by rw [hb]; exact d) (by rw [hk0, hn0, hR]; exact ⟨by omega, by omega⟩)
    (fun U hU hW => ⟨rfl, by rw [hU, hT], ⟨by rw [hU, hT]; exact hP, va_K.moved hW.alike hK, hD⟩, by
      have h1 : XT A U H := hXH.warm hW
      rw [hU, hT]
      refine h1.narrow (fun q hq => ?_)
      rcases hq with ⟨-, k2, h2, rfl⟩ | hq
      · exact hAk k2 h2
      · exact hAA q (Nat.le_trans hS.1 hq)⟩)
  obtain ⟨hsteps, hrun, hend, hW, hsame⟩ := X'.leaveThrown x (g := { F0 C.m pc ls (As.reverse ++ .ref (C.a k) :: rest) with stack := rest }) rfl rfl rfl
    (fun z hz => by
      have he : C.c.exceptionTable.toList = [] := by
        have := het
        rw [Array.isEmpty_iff] at this
        rw [this]
      rw [he] at hz
      cases hz) hlk
  refine ⟨_, hstp _ hsteps, ?_⟩
  rw [hQ]
  refine ⟨x, hrun, hend, ?_, hx2, hW, ?_⟩
  · rw [hT] at hx1
    exact Nat.le_trans hS.1 hx1
  · have := hsame
    rw [hk0, hn0] at this
    exact this
end YCt
/-- the exceptions by their numbers in the definitions -/
def exn (e : Nat) : String := match e with
  | 0 => "java/lang/IllegalArgumentException"
  | 1 => "java/lang/IllegalStateException"
  | 2 => "java/lang/IndexOutOfBoundsException"
  | _ => "java/lang/UnsupportedOperationException"
theorem inl_some {v r : Int32} {V V' : Sto} (h : (some (.inl v, V) : RTT) = some (.inl r, V')) : some (v, V) = some (r, V') := by cases h; rfl
theorem clT_ret {x : RTT} {k : Int32 → Sto → RTT} {r : Int32} {V' : Sto} (h : clT x k = some (.inl r, V')) : ∃ r1 V1, x = some (.inl r1, V1) ∧ k r1 V1 = some (.inl r, V') := by
  match x, h with
  | some (.inl r1, V1), h => exact ⟨r1, V1, rfl, h⟩
  | some (.inr e, V1), h => cases h
  | none, h => cases h
theorem clT_thr {x : RTT} {k : Int32 → Sto → RTT} {e : Nat} {V' : Sto} (h : clT x k = some (.inr e, V')) : x = some (.inr e, V') ∨ ∃ r1 V1, x = some (.inl r1, V1) ∧ k r1 V1 = some (.inr e, V') := by
  match x, h with
  | some (.inl r1, V1), h => exact Or.inr ⟨r1, V1, rfl, h⟩
  | some (.inr e, V1), h => exact Or.inl h
  | none, h => cases h
theorem ite_or {α : Sort _} {c : Prop} {hd : Decidable c} {a b y : α} (h : (@ite α c hd a b) = y) : a = y ∨ b = y := by
  by_cases hc : c
  · exact Or.inl (ifp hc h)
  · exact Or.inr (ifn hc h)
