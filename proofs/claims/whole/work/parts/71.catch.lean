/-! A throw that is caught by one of two clauses, each one's class by its link; the contracts of the law's helpers. -/
theorem go_passLink {Q : Handler → Jvm.Pre} {E : CtlPost} {e : Env} {d : Bool} {acts : List Action} {s : State} {f : JFrame} {a : Addr} {x : ExceptionTableEntry} {t : List ExceptionTableEntry} {c : ClassId} {cell : Cell} (hx : covers x f.pc = true) (h0 : x.catchType ≠ 0)
    (hl : s.vm.ClassLinks e.platform f.method.cls x.catchType c) (hcell : s.heap[a]? = some cell) (hobj : ∀ k, cell.vm ≠ .statics k)
    (hk : ∃ k, s.vm.classes[cell.cls]? = some k) (hc : ∃ k, s.vm.classes[c]? = some k) (hfit : s.vm.assignable cell.cls c = false) :
    wp (findHandler.go f a (x :: t)) Q E e d acts s ↔ wp (findHandler.go f a t) Q E e d acts (s.setVm (s.vm.noted f.method.cls x.catchType (.cls c))) := by
  simp only [covers] at hx
  obtain ⟨ha, ht⟩ := (resolveClass_links e.toSetting hl).op (op := VmOp.resolveClass f.method.cls x.catchType) rfl
  have hal : s.vm.Alike (s.vm.noted f.method.cls x.catchType (.cls c)) := (Vm.Alike.refl s.vm).noted _ _ _
  obtain ⟨k1, hk1⟩ := hk
  obtain ⟨k2, hk2⟩ := hc
  obtain ⟨k1', hk1', -⟩ := hal.2.2 _ _ hk1
  obtain ⟨k2', hk2', -⟩ := hal.2.2 _ _ hk2
  have hfit' : (s.vm.noted f.method.cls x.catchType (.cls c)).assignable cell.cls c = false := by rw [hal.assignable]; exact hfit
  simp [findHandler.go, hx, h0, ha, ht, hcell, hobj, hk1', hk2', hfit', VmOp.dirties, VmOp.acts]
section CL2
variable {p : Program} {l : Launch} {e : Env} {R : Room} {s : State} {m : MethodId} {args : Array Value} {below : List Frame} {meth : Method} {c : Code} {T : State} {locs : List Loc} {cells slots : Nat}
theorem caughtLink2 (X : Stand p l e R s m args below meth c T locs cells slots) (a : Addr) {g : JFrame} (hg : g.method = m) {own nm0 name : String} (hown : s.vm.findClass own = some m.cls)
    (x0 x : ExceptionTableEntry) (rest : List ExceptionTableEntry) (hsplit : c.exceptionTable.toList = x0 :: x :: rest) (hx0 : covers x0 g.pc = true) (h00 : x0.catchType ≠ 0) (hx : covers x g.pc = true) (h0 : x.catchType ≠ 0)
    (hlink0 : (Cond.classLink own x0.catchType nm0).before args s = true) (hlink : (Cond.classLink own x.catchType name).before args s = true) {c0 cT : ClassId} {cell : Cell} (hc0 : s.vm.findClass nm0 = some c0) (hcT : s.vm.findClass name = some cT) (hcell : T.heap[a]? = some cell) (hobj : cell.vm.isStatics = false)
    (hnot : s.vm.assignable cell.cls c0 = false) (hfit : s.vm.assignable cell.cls cT = true) :
    ∃ vm', Stand p l e R s m args below meth c (T.setVm vm') locs cells slots ∧
      ∀ target, Steps p.tables e below ((T.setVm vm').setTop { g with pc := x.handlerPc, stack := [.ref a] }) target → Steps p.tables e below ((T.setTop g).pushFrame (.throwing a)) target := by
  have hpl : e.platform.magicAccessors = ({} : Platform).magicAccessors := by rw [X.admits.platform]
  obtain ⟨c0', hc0', hcl0⟩ := Cond.classLink_spec hown hlink0 e.platform hpl
  cases hc0.symm.trans hc0'
  obtain ⟨c', hc', hcl⟩ := Cond.classLink_spec hown hlink e.platform hpl
  cases hcT.symm.trans hc'
  obtain ⟨dk0, _, _, kt0, hd0, _, _, _, _, hkt0, _, hopen0⟩ := hcl0.here
  obtain ⟨dk, _, _, kt, hd, _, _, _, _, hkt, _, hopen⟩ := hcl.here
  have hcl00 := X.warmed.classLinks hcl0
  have hW1 : s.WarmedH (T.vm.noted m.cls x0.catchType (.cls c0)) := X.warmed.noted hd0 hopen0 (State.rightAt_cls hcl0)
  have X1 := X.noted hW1
  have hcl1 := X1.warmed.classLinks hcl
  have hW2 : s.WarmedH ((T.vm.noted m.cls x0.catchType (.cls c0)).noted m.cls x.catchType (.cls cT)) := X1.warmed.noted hd hopen (State.rightAt_cls hcl)
  have hal := X.warmed.alike
  have hal1 := X1.warmed.alike
  obtain ⟨kt', hkt', -⟩ := hal.2.2 _ _ hkt
  obtain ⟨kt0', hkt0', -⟩ := hal.2.2 _ _ hkt0
  obtain ⟨kt1, hkt1, -⟩ := hal1.2.2 _ _ hkt
  have hfitT : T.vm.assignable cell.cls cT = true := by rw [hal.assignable]; exact hfit
  have hnotT : T.vm.assignable cell.cls c0 = false := by rw [hal.assignable]; exact hnot
  have hfit1 : (T.vm.noted m.cls x0.catchType (.cls c0)).assignable cell.cls cT = true := by
    show (T.setVm (T.vm.noted m.cls x0.catchType (.cls c0))).vm.assignable cell.cls cT = true
    rw [hal1.assignable]; exact hfit
  refine ⟨_, X1.noted hW2, fun target hrest => ?_⟩
  subst hg
  refine Steps.caughtTo X.here ?_ hrest
  intro Q E d acts
  rw [Jvm.W.findHandler_eq (s := (T.setTop g).pushFrame (.throwing a)) X.method' X.code, hsplit]
  rw [go_passLink (s := (T.setTop g).pushFrame (.throwing a)) hx0 h00 hcl00 hcell (VmData.ne_statics_of hobj) (Vm.classAt_of_assignable hfitT ⟨kt', hkt'⟩) ⟨kt0', hkt0'⟩ hnotT]
  exact Jvm.W.findHandler_go_link (s := ((T.setTop g).pushFrame (.throwing a)).setVm (T.vm.noted g.method.cls x0.catchType (.cls c0))) hx h0 hcl1 hcell (VmData.ne_statics_of hobj) (Vm.classAt_of_assignable hfit1 ⟨kt1, hkt1⟩) ⟨kt1, hkt1⟩ hfit1
end CL2
/-- that an exception of one class is none of another -/
def NCL : List (String × String) := [("java/lang/UnsupportedOperationException", "java/lang/IllegalArgumentException"), ("java/lang/IllegalArgumentException", "java/lang/IllegalStateException"), ("java/lang/IndexOutOfBoundsException", "java/lang/IllegalStateException")]
def NCs (U : State) : Prop := ∀ q ∈ NCL, va_Nc q.1 q.2 U
theorem NCs.moved {u U : State} (hvm : u.vm.Alike U.vm) (h : NCs u) : NCs U := fun q hq => (h q hq).moved hvm
/-- the clauses of a helper: the exception E goes to the pc h -/
def Clause (own : String) (tbl : List (Nat × Nat × Nat × Nat)) (pc : Nat) (E : String) (h : Nat) : Prop :=
  (∃ q rest, tbl = q :: rest ∧ (q.1 ≤ pc ∧ pc < q.2.1) ∧ q.2.2.2 ≠ 0 ∧ q.2.2.1 = h ∧ Cond.classLink own q.2.2.2 E ∈ ALLW ∧ Cond.castable E E ∈ XW) ∨
  (∃ q0 q rest E0, tbl = q0 :: q :: rest ∧ (q0.1 ≤ pc ∧ pc < q0.2.1) ∧ q0.2.2.2 ≠ 0 ∧ Cond.classLink own q0.2.2.2 E0 ∈ ALLW ∧ (E, E0) ∈ NCL ∧ (q.1 ≤ pc ∧ pc < q.2.1) ∧ q.2.2.2 ≠ 0 ∧ q.2.2.1 = h ∧ Cond.classLink own q.2.2.2 E ∈ ALLW ∧ Cond.castable E E ∈ XW)
def tblOf (c : Code) : List (Nat × Nat × Nat × Nat) := c.exceptionTable.toList.map (fun h => (h.startPc, h.endPc, h.handlerPc, h.catchType))
section CLX
variable {p : Program} {l : Launch} {e : Env} {R : Room} {s : State} {m : MethodId} {args : Array Value} {below : List Frame} {meth : Method} {c : Code} {T : State} {locs : List Loc} {cells slots : Nat}
theorem caughtC (X : Stand p l e R s m args below meth c T locs cells slots) (a : Addr) {g : JFrame} (hg : g.method = m) {own E : String} {h : Nat} (hown : s.vm.findClass own = some m.cls) (hts : ∀ w ∈ ALLW, w.before args s = true) (hXW : ∀ w ∈ XW, va_Nw w s) (hN : NCs s)
    (hcl : Clause own (tblOf c) g.pc E h) (hx : Exn E a T) :
    ∃ vm', Stand p l e R s m args below meth c (T.setVm vm') locs cells slots ∧
      ∀ target, Steps p.tables e below ((T.setVm vm').setTop { g with pc := h, stack := [.ref a] }) target → Steps p.tables e below ((T.setTop g).pushFrame (.throwing a)) target := by
  obtain ⟨ce, hce, hcls, hvm, kk, hkk⟩ := hx
  have hal := X.warmed.alike
  have hclsS : s.vm.findClass E = some ce.cls := by rw [← hal.findClass]; exact hcls
  have hobj : ce.vm.isStatics = false := by rw [hvm]; rfl
  have casts : Cond.castable E E ∈ XW → s.vm.assignable ce.cls ce.cls = true := fun hw => by
    obtain ⟨c3, t3, w1, w2, w3⟩ := Cond.castable_spec (va_Nw.use (A := #[]) rfl (hXW _ hw))
    cases hclsS.symm.trans w1
    cases hclsS.symm.trans w2
    exact w3
  rcases hcl with ⟨q, rest, htbl, hcov, h0, rfl, hlk, hcw⟩ | ⟨q0, q, rest, E0, htbl, hcov0, h00, hlk0, hnc, hcov, h0, rfl, hlk, hcw⟩
  · cases hl : c.exceptionTable.toList with
    | nil => rw [tblOf, hl] at htbl; cases htbl
    | cons x xs =>
      rw [tblOf, hl, List.map_cons] at htbl
      injection htbl with e1 e2
      subst e1
      obtain ⟨vm', X', st⟩ := X.caughtLink a hg hown [] x xs hl (fun y hy => by cases hy) (by simpa [covers] using hcov) h0 (hts _ hlk) hclsS hce hobj (casts hcw)
      refine ⟨vm', X', fun target hr => ?_⟩
      rw [X.pushThrowing_eq]
      exact st target hr
  · cases hl : c.exceptionTable.toList with
    | nil => rw [tblOf, hl] at htbl; cases htbl
    | cons x0 xs =>
      cases xs with
      | nil => rw [tblOf, hl] at htbl; cases htbl
      | cons x xs =>
        rw [tblOf, hl, List.map_cons, List.map_cons] at htbl
        injection htbl with e1 e2
        injection e2 with e2 e3
        subst e1
        subst e2
        obtain ⟨cE, c0, w1, w2, w3⟩ := hN _ hnc
        cases hclsS.symm.trans w1
        exact caughtLink2 X a hg hown x0 x xs hl (by simpa [covers] using hcov0) h00 (by simpa [covers] using hcov) h0 (hts _ hlk0) (hts _ hlk) w2 hclsS hce hobj w3 (casts hcw)
end CLX
section ZCa
variable {C : YC} {own : String} {cc : ByteArray} {nL pc k n : Nat} {rm : Room} {L : List (Nat × Value)} {st : List Value}
variable {P S : va_W} {a : Nat → Nat} {V : Sto} {idx ci N : Nat} {y : MethodName} {cc' : ByteArray} {maxL' : Nat} {rm' : Room} {As rest : List Value} {T : u_T} {fs : List (Option Nat)} {ret' : Option FieldType}
/-- a call that throws E, caught at the pc h -/
theorem Z_catch {E : String} {h : Nat} (hC : YF C own cc nL rm) (hXT : XT C.A C.s C.s.heap) (hN : NCs C.s) (hM : YMt C.l C.D C.cI C.cZ a shpC y cc' maxL' ret' rm' (.ref (a 0) :: As) V E) (hs : shpC[0]? = some (.inl (ci, fs))) (hc : classes[ci]? = some (y.cls, T, N)) (hm : MLb own idx y cc' maxL' ret' As.length) (hv : MLv y)
    (hroom : (rm'.frames + 1 ≤ rm.frames ∧ 8 + (maxL' + 11) + rm'.locals ≤ rm.locals) ∧ rm'.cells = 1 ∧ rm'.slots = 6) (hkn : k + 1 ≤ rm.cells ∧ n + 6 ≤ rm.slots) (hcat : (rest.map fun v => v.category).sum ≤ 8) (hst : st = As.reverse ++ .ref (a 0) :: rest) (d : decode cc pc = .ok (.invokevirtual idx, 3))
    (hcl : Clause own (tblOf C.c) pc E h) (kk : ∀ q : Nat, Z C nL (k + 1) (n + 6) h L [.ref q] (P ++ (wsF C.cI C.cZ a V 0 shpC ++ S))) : Z C nL k n pc L st (P ++ (wsF C.cI C.cZ a V 0 shpC ++ S)) := by
  have hC' := hC
  obtain ⟨hx, hb, hml, hown, hts, hK, hlk, hR, hA, hk1, hk2⟩ := hC'
  subst hst
  intro H locs ls hP hD hS hl
  have hF := freeT hD hS hA
  obtain ⟨cellB, hcB, hoB, hclB⟩ := Z_recv hC hs hc hP
  intro T hT X
  have hXH : XT C.A C.s H := hXT.kept (fun q h1 h2 => hS.2.1 q h1 h2)
  obtain ⟨x, T', X', hx1, hx2, hold, hstp⟩ := callT_core X hx hown (hts _ hm.2.1) (hts _ hv.1) (hts _ hv.2) (hts _ hm.1) ⟨hm.2.2.2.1, hm.2.2.2.2.1⟩ (hM H.size) YPcT_blind hroom.2.1 hroom.2.2
    (by rw [hR]; exact hroom.1.1) (by rw [hR]; exact hroom.1.2) (pay_in hts (gd_code hm.1)) List.mem_cons_self (fun a' U hW => word_at hW (goodAll _ hm.2.2.1) (hts _ hm.2.2.1))
    (b := a 0) (cellB := cellB) (by rw [hT]; exact hcB) hoB hclB (g := F0 C.m pc ls (As.reverse ++ .ref (a 0) :: rest)) rfl (by rw [hml]; exact hl.1) (argsL := As) (rest := rest)
    (fun sig h => by
      have h2 := hm.2.2.2.2.2
      rw [h] at h2
      exact (Option.some.inj h2).symm) rfl (by show 2 * 0 + _ ≤ 8; omega) (by rw [hb]; exact d) (by rw [hR]; exact hkn)
    (fun U hU hW => ⟨rfl, by rw [hU, hT], ⟨by rw [hU, hT]; exact P_l (P_r hP), va_K.moved hW.alike hK, (D_l (D_r hD)).weaken (fun _ _ _ _ => trivial)⟩, by
      have h1 : XT C.A U H := hXH.warm hW
      rw [hU, hT]
      exact h1.narrow (fun q hq => hF q (RA_A hq))⟩)
  have hXW : ∀ w ∈ XW, va_Nw w C.s := hXT.1
  obtain ⟨vm', X2, hst2⟩ := caughtC X' x (g := { F0 C.m pc ls (As.reverse ++ .ref (a 0) :: rest) with stack := rest }) rfl hown hts hXW hN hcl hx2
  have hsz : H.size ≤ T'.heap.size := by
    rcases Nat.eq_zero_or_pos H.size with h0 | h0
    · omega
    · have h1 : H.size - 1 < T.heap.size := by rw [hT]; omega
      have h2 := hold (H.size - 1) _ (Array.getElem?_eq_getElem h1)
      have h3 := (Array.getElem?_eq_some_iff.mp h2).1
      omega
  have hkp : ∀ q : Nat, q < H.size → T'.heap[q]? = H[q]? := fun q hq => by
    have h1 : q < T.heap.size := by rw [hT]; exact hq
    rw [hold q _ (Array.getElem?_eq_getElem h1), ← Array.getElem?_eq_getElem h1, hT]
  have hP2 : va_P C.D classes (P ++ (wsF C.cI C.cZ a V 0 shpC ++ S)) T'.heap := fun j q hj => (hP j q hj).kept (hkp q.1 (hP j q hj).lt)
  have hS2 : va_S C.A C.s.heap T'.heap locs := ⟨Nat.le_trans hS.1 hsz, fun q h1 h2 => (hkp q (Nat.lt_of_lt_of_le h1 hS.1)).trans (hS.2.1 q h1 h2), hS.2.2⟩
  obtain ⟨t, g1, g2⟩ := kk x T'.heap locs ls hP2 hD hS2 hl (T'.setVm vm') rfl X2
  exact ⟨t, hstp _ (hst2 _ g1), g2⟩
end ZCa
/-! contracts of the helpers -/
def HPc (D : va_G) (cI cZ cJ : ClassId) (av : List Value) (ws : va_W) (sz : Nat) : Array Value → State → Prop := va_Pc av (fun U => U.heap.size = sz ∧ va_P D classes ws U.heap ∧ va_K D classes (tysOf cI cZ) U ∧ va_K D classes [(cJ, .long)] U ∧ va_D (fun _ => True) ws ∧ XT (va_A ws sz) U U.heap ∧ NCs U)
def HQ (D : va_G) (A : Nat → Prop) (r : Int32) (B : va_W → Prop) : Array Value → State → Outcome → State → Prop := va_Qi (fun r' (_ : Unit) => r' = r) (fun _ t => ∃ w : va_W, B w ∧ va_P D classes w t.heap ∧ va_D A w) A
def HM (l : Launch) (D : va_G) (cI cZ cJ : ClassId) (y : MethodName) (cc : ByteArray) (maxL : Nat) (hs : List (Nat × Nat × Nat × Nat)) (rm : Room) (av : List Value) (ws : va_W) (r : Int32) (B : va_W → Prop) : Prop :=
  ∀ sz : Nat, Met l y (Cond.codeWith y cc maxL (some .int) hs :: ALLW) rm (HPc D cI cZ cJ av ws sz) (HQ D (va_A ws sz) r B) rm.cells rm.slots (va_A ws sz)
def HE (C : YC) (rm : Room) (r : Int32) (B : va_W → Prop) : Prop := C.meth.sig.returnType = some .int ∧ C.Q = MQ C.below (HQ C.D C.A r B) C.args C.s rm.cells rm.slots C.A
theorem HPc_blind {D : va_G} {cI cZ cJ : ClassId} {av : List Value} {ws : va_W} {sz : Nat} : FrameBlind (HPc D cI cZ cJ av ws sz) := fun v U g mk q => by
  obtain ⟨q0, q1, qP, qK, qJ, qD, qX, qN⟩ := q
  refine ⟨q0, q1, qP, va_K.moved (u := U) (U := U.calling g mk v) (Vm.Alike.refl U.vm) qK, va_K.moved (u := U) (U := U.calling g mk v) (Vm.Alike.refl U.vm) qJ, qD, ?_, qN.moved (Vm.Alike.refl U.vm)⟩
  exact ⟨fun w hw => XW_same (u := U) hw rfl (qX.1 w hw), qX.2.1.moved (Vm.Alike.refl U.vm), qX.2.2.1.moved (Vm.Alike.refl U.vm), fun q hq => by
    obtain ⟨a, ha⟩ := qX.2.2.2 q hq
    exact ⟨a, vk_R.same rfl ha⟩⟩
theorem HM_of {l : Launch} {D : va_G} {cI cZ cJ : ClassId} {y : MethodName} {cc : ByteArray} {maxL : Nat} {hs : List (Nat × Nat × Nat × Nat)} {rm : Room} {av : List Value} {ws : va_W} {r : Int32} {B : va_W → Prop} (hy : plainName y.cls = true) (hlen : (lg_sl av).length ≤ maxL)
    (body : ∀ C : YC, C.l = l → C.D = D → C.cI = cI → C.cZ = cZ → YF C y.cls cc maxL rm → HE C rm r B → XT C.A C.s C.s.heap → NCs C.s → va_K C.D classes [(cJ, .long)] C.s → tblOf C.c = hs → Z C maxL 0 0 0 (lv_args 0 av) [] ws) : HM l D cI cZ cJ y cc maxL hs rm av ws r B := by
  intro sz
  refine va_MetW (cc := cc) (maxL := maxL) (ret := some .int) (hh := hs) hy rfl ?_
  intro p e s m args below meth c s₁ BB hml hv
  obtain ⟨rfl, hsz, hP, hK, hJ, hD0, hX, hN⟩ := hv
  subst hsz
  have hts0 := atoms_spec (ws := Cond.codeWith y cc maxL (some .int) hs :: ALLW) BB.pre
  have htb : tblOf c = hs := by
    obtain ⟨m9, meth9, c9, hn9, h1, h2, h3, h4, h5, h6, h7, -⟩ := Cond.codeWith_spec (hts0 _ List.mem_cons_self)
    cases BB.named.symm.trans hn9
    cases BB.method.symm.trans h1
    cases (Stand.of_body BB).code.symm.trans h2
    exact h5
  have hb := body ((p, l, e, (headSpec (Cond.codeWith y cc maxL (some .int) hs :: ALLW) rm).room, s), (m, av.toArray, below, meth, c), (D, cI, cZ), (fun _ => 0, va_A ws s.heap.size), (0, 0), MQ below (HQ D (va_A ws s.heap.size) r B) av.toArray s rm.cells rm.slots (va_A ws s.heap.size)) rfl rfl rfl rfl
    ⟨BB.exec, BB.bytes, hml, findClass_of_methodNamed BB.named, fun w hw => hts0 w (List.mem_cons_of_mem _ hw), hK, BB.notSynchronized, rfl, fun q h => Or.inr h, Nat.zero_le _, Nat.zero_le _⟩ ⟨BB.returns, rfl⟩ hX hN hJ htb
  have hl := lv_entry av (n := maxL) hlen
  rw [lg_entry_eq]
  exact hb s.heap [] _ hP hD0.self va_S.rf hl
section ZH
variable {C : YC} {own : String} {cc : ByteArray} {nL pc k n : Nat} {rm : Room} {L : List (Nat × Value)} {st : List Value}
theorem Z_iretH {ws : va_W} {v r : Int32} {B : va_W → Prop} (hC : YF C own cc nL rm) (hE : HE C rm r B) (hk : k ≤ rm.cells ∧ n ≤ rm.slots) (d : decode cc pc = .ok (.ireturn, 1)) (hv : v = r) (hB : B ws) : Z C nL k n pc L [.int v] ws := by
  obtain ⟨hx, hb, hml, hown, hts, hK, hlk, hR, hA, hk1, hk2⟩ := hC
  obtain ⟨hr, hQ⟩ := hE
  subst hv
  intro H locs ls hP hD hS hl
  show W _ _ _ _ _ _ _ _ _ _ _ _ _ _ C.Q _
  rw [hQ]
  refine W.widen hk.1 hk.2 ?_
  exact W.iret (v := v) hx hb hr (fun t ht hW => ⟨⟨v, (), rfl, rfl, ws, hB, by rw [ht]; exact hP, hD⟩, hS.F ht⟩) hS.2.2 d hlk
variable {p : Program} {l : Launch} {e : Env} {R : Room} {s : State} {m : MethodId} {args : Array Value} {below : List Frame} {meth : Method} {c : Code} {T : State} {locs : List Loc} {cells slots : Nat}
theorem callSW (X : Stand p l e R s m args below meth c T locs cells slots) (hexec : p.tables.exec = Jvm.exec) {own : String} {index : Nat} {y : MethodName} {bytes : ByteArray} {maxL : Nat} {ret : Option FieldType} {hh : List (Nat × Nat × Nat × Nat)}
    (hown : s.vm.findClass own = some m.cls) (hlink : (Cond.methodLink own index y).before args s = true) (hstat : (Cond.static y).before args s = true) (hinit : (Cond.initialized y.cls).before args s = true)
    (hcode : (Cond.codeWith y bytes maxL ret hh).before args s = true) (hy : y.cls ≠ "java/lang/invoke/MethodHandle" ∧ y.cls ≠ "java/lang/invoke/VarHandle")
    {W : Nat} {Pre : Pt → Array Value → Prop} {Post : Pt → Array Value → Option Value → Pt → Prop} (hK : Back l R p e below s args y 3 W Pre Post)
    {g : JFrame} (hg : g.method = m) (hsize : g.locals.size = c.maxLocals) {argsL rest : List Value} (hlen : ∀ sig, parseMethodDescriptor y.desc = some sig → argsL.length = sig.parameters.length)
    (hstack : g.stack = argsL.reverse ++ rest) (hW : 2 * g.monitorRoom + (rest.map fun v => v.category).sum ≤ W) (hdg : decode c.code g.pc = .ok (.invokestatic index, 3))
    (hpre : ∀ vm₁, s.WarmedH vm₁ → Pre ⟨T.setVm vm₁, locs, cells, slots⟩ argsL.toArray) :
    ∃ (v : Option Value) (vm₁ : Vm) (B : Pt), s.WarmedH vm₁ ∧ Stand p l e R s m args below meth c B.U B.locs B.cells B.slots ∧ Post ⟨T.setVm vm₁, locs, cells, slots⟩ argsL.toArray v B ∧
      ∀ target, Steps p.tables e below (B.U.setTop { g with pc := g.pc + 3, stack := v.toList ++ rest }) target → Steps p.tables e below (T.setTop g) target := by
  obtain ⟨mk, methM, cM, hnamed, hmethM, -, -, -, -, -, -, hsigM⟩ := Cond.codeWith_spec hcode
  have hstatic : methM.isStatic = true := Cond.static_spec hnamed hmethM hstat
  obtain ⟨kP, hkP, -⟩ := className_of_methodNamed hnamed
  have hinitP : kP.init = .initialized := Cond.initialized_spec (findClass_of_methodNamed hnamed) hkP hinit
  obtain ⟨vm₁, X₁, hstep₁⟩ := X.invokestatic hexec hown hlink hnamed hmethM hstatic hkP hinitP hy (g := g) hg (argsL := argsL) (rest := rest) (hlen _ hsigM) hstack hdg
  obtain ⟨v, B, X', hpost, hsteps⟩ := hK m meth c ⟨T.setVm vm₁, locs, cells, slots⟩ { g with stack := rest } (.invokestatic index) mk argsL.toArray X₁ hg hsize hdg hW (X₁.named hnamed) (hpre vm₁ X₁.warmed)
  exact ⟨v, vm₁, B, X₁.warmed, X', hpost, fun target h => hstep₁ _ fun acts => by rw [doInvoke_state]; exact hsteps.trans h⟩
end ZH
/-- a helper's words -/
def MLh (own : String) (idx : Nat) (y : MethodName) (cc : ByteArray) (maxL : Nat) (hs : List (Nat × Nat × Nat × Nat)) (n : Nat) : Prop :=
  Cond.codeWith y cc maxL (some .int) hs ∈ ALLW ∧ Cond.methodLink own idx y ∈ ALLW ∧ Cond.initialized y.cls ∈ ALLW ∧ Cond.static y ∈ ALLW ∧ (y.cls ≠ "java/lang/invoke/MethodHandle" ∧ y.cls ≠ "java/lang/invoke/VarHandle" ∧ (parseMethodDescriptor y.desc).map (fun d => d.parameters.length) = some n)
section ZH2
variable {C : YC} {own : String} {cc : ByteArray} {nL pc k n : Nat} {rm : Room} {L : List (Nat × Value)} {st : List Value} {P X : va_W} {r : Int32} {idx : Nat} {y : MethodName} {cc' : ByteArray} {maxL' : Nat} {hh : List (Nat × Nat × Nat × Nat)} {rm' : Room} {As rest : List Value} {cJ : ClassId} {B : va_W → Prop}
theorem Z_hs (hC : YF C own cc nL rm) (hJ : va_K C.D classes [(cJ, .long)] C.s) (hXT : XT C.A C.s C.s.heap) (hN : NCs C.s) (hM : HM C.l C.D C.cI C.cZ cJ y cc' maxL' hh rm' As X r B) (hm : MLh own idx y cc' maxL' hh As.length)
    (hroom : rm'.frames + 1 ≤ rm.frames ∧ 8 + (maxL' + 11) + rm'.locals ≤ rm.locals) (hkn : k + rm'.cells ≤ rm.cells ∧ n + rm'.slots ≤ rm.slots) (hcat : (rest.map fun v => v.category).sum ≤ 8) (hst : st = As.reverse ++ rest) (d : decode cc pc = .ok (.invokestatic idx, 3))
    (kk : ∀ w : va_W, B w → Z C nL (k + rm'.cells) (n + rm'.slots) (pc + 3) L (.int r :: rest) (P ++ w)) : Z C nL k n pc L st (P ++ X) := by
  obtain ⟨hx, hb, hml, hown, hts, hK, hlk, hR, hA, hk1, hk2⟩ := hC
  obtain ⟨m1, m2, m3, m4, m5⟩ := hm
  subst hst
  intro H locs ls hP hD hS hl
  have hP' : va_P C.D classes (P ++ (X ++ [])) H := by rw [List.append_nil]; exact hP
  have hD' : va_D C.A (P ++ (X ++ [])) := by rw [List.append_nil]; exact hD
  have hF := freeT hD' hS hA
  have hXH : XT C.A C.s H := hXT.kept (fun q h1 h2 => hS.2.1 q h1 h2)
  have gw : GoodIn ALLW (Cond.codeWith y cc' maxL' (some .int) hh :: ALLW) := fun w hw => by
    rcases List.mem_cons.mp hw with rfl | hw
    · exact ⟨m1, goodAll _ m1⟩
    · exact ⟨hw, goodAll _ hw⟩
  have hBk : Back C.l C.R C.p C.e C.below C.s C.args y 3 8 (PreOf C.R rm'.cells rm'.slots (HPc C.D C.cI C.cZ cJ As X H.size)) (PostOf (HQ C.D (va_A X H.size) r B) rm'.cells rm'.slots (va_A X H.size)) :=
    va_backW (hh := hh) (bytes := cc') (maxL := maxL') (ret := some .int) (hM H.size) HPc_blind rfl rfl (by rw [hR]; exact hroom.1) (by rw [hR]; exact hroom.2) (pay_in hts gw) List.mem_cons_self (fun a' U hW => word_at hW (goodAll _ m3) (hts _ m3))
  have hrun : va_Run C.p C.l C.e C.R C.s C.m C.args C.below C.meth C.c H locs k n rm'.cells rm'.slots (F0 C.m pc ls (As.reverse ++ rest)) rest (HQ C.D (va_A X H.size) r B As.toArray) (va_A X H.size) := by
    intro T hT XX
    obtain ⟨v, vm₁, ⟨U', l2, c2, s2⟩, hW₁, X', ⟨g', mk, t, L2, e1, e2, hq, h1, hL, h2, h3⟩, st⟩ := callSW XX hx (hh := hh) (bytes := cc') (maxL := maxL') (ret := some .int) hown (hts _ m2) (hts _ m4) (hts _ m3) (hts _ m1) ⟨m5.1, m5.2.1⟩ hBk (g := F0 C.m pc ls (As.reverse ++ rest)) rfl (hl.1.trans hml.symm) (argsL := As) (rest := rest)
      (fun sig h => by
        have h2 := m5.2.2
        rw [h] at h2
        exact (Option.some.inj h2).symm) rfl (lv_room hcat) (by rw [hb]; exact d)
      (fun vm₁ hW₁ => ⟨by rw [hR]; exact hkn.1, by rw [hR]; exact hkn.2, rfl, by show T.heap.size = _; rw [hT], by show va_P _ _ _ T.heap; rw [hT]; exact P_r hP, va_K.moved hW₁.alike hK, va_K.moved hW₁.alike hJ, (D_r hD).weaken (fun _ _ _ _ => trivial), by
        show XT _ (T.setVm vm₁) T.heap
        rw [hT]
        have h1 : XT C.A (T.setVm vm₁) H := hXH.warm hW₁
        exact h1.narrow hF, hN.moved hW₁.alike⟩)
    dsimp only [Pt.U, Pt.locs, Pt.cells, Pt.slots] at X' e1 e2 h1 h2 h3 st
    subst h1; subst h2; subst h3
    exact ⟨v, (T.setVm vm₁).calling g' mk As.toArray, t, U', L2, hT, X', hL, e1, e2, hq, st⟩
  refine va_calli hrun hS (fun q _ h => hF q h) hF (fun r' u t H1 locs ht hvm hw hB hz1 hkk hS => ?_)
  subst hw
  obtain ⟨w, hBw, hP1, hD1⟩ := hB
  rw [ht] at hP1
  obtain ⟨hP2, hD2⟩ := joinT hP' hD' hkk hF hP1 hD1
  rw [List.append_nil] at hP2 hD2
  exact kk w hBw H1 locs ls hP2 hD2 hS hl
/-- a constructor's call, its object the last cell -/
theorem Z_callK {q : Nat} {bl : va_E} {Xp : State → Prop} (hC : YF C own cc nL rm) (hM : KM C.l C.D C.cI C.cZ y cc' maxL' rm' q bl As Xp B) (hXb : ∀ u U : State, u.vm = U.vm → Xp u → Xp U) (hXs : ∀ U : State, C.s.WarmedH U.vm → Xp U) (hyn : y.name = "<init>") (hm : MLb own idx y cc' maxL' none As.length) (hv : Cond.instanceMethod y ∈ ALLW)
    (hroom : (rm'.frames + 1 ≤ rm.frames ∧ 8 + (maxL' + 11) + rm'.locals ≤ rm.locals) ∧ k + rm'.cells ≤ rm.cells ∧ n + rm'.slots ≤ rm.slots) (hcat : (rest.map fun v => v.category).sum ≤ 8) (hst : st = As.reverse ++ .ref q :: rest) (d : decode cc pc = .ok (.invokespecial idx, 3))
    (kk : ∀ w : va_W, B w → Z C nL (k + rm'.cells) (n + rm'.slots) (pc + 3) L rest (P ++ w)) : Z C nL k n pc L st (P ++ [(q, bl)]) := by
  obtain ⟨hx, hb, hml, hown, hts, hK, hlk, hR, hA, hk1, hk2⟩ := hC
  subst hst
  intro H locs ls hP hD hS hl
  have hP' : va_P C.D classes (P ++ ([(q, bl)] ++ [])) H := by rw [List.append_nil]; exact hP
  have hD' : va_D C.A (P ++ ([(q, bl)] ++ [])) := by rw [List.append_nil]; exact hD
  have hF := freeT hD' hS hA
  have hpre : PreS C.s H (va_Pc (.ref q :: As) (fun U => U.heap.size = H.size ∧ va_P C.D classes [(q, bl)] U.heap ∧ va_K C.D classes (tysOf C.cI C.cZ) U ∧ va_D (fun _ => True) [(q, bl)] ∧ Xp U)) (.ref q :: As) :=
    ⟨KM_blind (X := Xp) hXb, fun U hU hW => ⟨rfl, by rw [hU], by rw [hU]; exact P_r hP, va_K.moved hW.alike hK, D_one trivial, hXs U hW⟩⟩
  have hrun : va_Run C.p C.l C.e C.R C.s C.m C.args C.below C.meth C.c H locs k n rm'.cells rm'.slots (F0 C.m pc ls (As.reverse ++ .ref q :: rest)) rest (va_Qv (fun (_ : Unit) => True) (fun _ t => ∃ w : va_W, B w ∧ va_P C.D classes w t.heap ∧ va_D (va_A [(q, bl)] H.size) w) (va_A [(q, bl)] H.size) (.ref q :: As).toArray) (va_A [(q, bl)] H.size) :=
    va_runI (As := As) (rest := rest) ⟨hx, hb, hml, hown, hts⟩ (hM H.size) (cwI As.length hts (gd_code hm.1) rfl rfl rfl (hts _ hm.2.2.1) (hts _ hm.2.1) (hts _ hv) hyn hm.2.2.2 (by rw [hR]; exact hroom.1)) hpre rfl rfl hl.1 rfl (lv_room hcat) d ⟨by rw [hR]; exact hroom.2.1, by rw [hR]; exact hroom.2.2⟩
  refine va_callv hrun hS (fun q _ h => hF q h) hF (fun u t H1 locs ht hvm hw' hB hz1 hkk hS => ?_)
  obtain ⟨w, hBw, hP1, hD1⟩ := hB
  rw [ht] at hP1
  obtain ⟨hP2, hD2⟩ := joinT hP' hD' hkk hF hP1 hD1
  rw [List.append_nil] at hP2 hD2
  exact kk w hBw H1 locs ls hP2 hD2 hS hl
end ZH2
