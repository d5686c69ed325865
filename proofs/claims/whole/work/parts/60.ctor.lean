/-! Constructors: the walk with a list of cells that grows (judgement Z). -/
def Z (C : YC) (nL k n pc : Nat) (L : List (Nat × Value)) (st : List Value) (ws : va_W) : Prop :=
  ∀ (H : Heap) (locs : List Loc) (ls : Array Slot), va_P C.D classes ws H → va_D C.A ws → va_S C.A C.s.heap H locs → lv_has ls nL L → W C.p C.l C.e C.R C.s C.m C.args C.below C.meth C.c H locs k n C.Q (F0 C.m pc ls st)
abbrev oInit : MethodName := ⟨"java/lang/Object", "<init>", "()V"⟩
theorem oiI : Cond.instanceMethod Lib.objectInit ∈ ALLW := (mw 121 (by decide +kernel))
theorem oiC : Cond.code Lib.objectInit ⟨#[0xb1]⟩ 1 none ∈ ALLW := (mw 122 (by decide +kernel))
/-- the nest's own links -/
def NestW : List Cond := [.methodLinkNest "LinkYard" 9 ⟨"LinkYard$Units", "<init>", "()V"⟩ "LinkYard", .methodLinkNest "LinkYard" 18 ⟨"LinkYard$Sections", "<init>", "()V"⟩ "LinkYard", .methodLinkNest "LinkYard" 25 ⟨"LinkYard$Symbols", "<init>", "()V"⟩ "LinkYard", .methodLinkNest "LinkYard" 32 ⟨"LinkYard$Relocations", "<init>", "()V"⟩ "LinkYard"]
section ZR
variable {C : YC} {own : String} {cc : ByteArray} {nL pc k n : Nat} {rm : Room} {L : List (Nat × Value)} {st : List Value} {ws ws' : va_W}
theorem Z_iconst (hC : YF C own cc nL rm) {z : Int} {v : Int32} (d : decode cc pc = .ok (.iconst z, 1)) (hv : Int32.ofInt z = v) (kk : Z C nL k n (pc + 1) L (.int v :: st) ws) : Z C nL k n pc L st ws := by
  obtain ⟨hx, hb, hml, hown, hts, hK, hlk, hR, hA, hk1, hk2⟩ := hC
  exact fun H locs ls hP hD hS hl => lv_iconst hx hb d hv (kk H locs ls hP hD hS hl)
theorem Z_bipush (hC : YF C own cc nL rm) {z : Int} {v : Int32} (d : decode cc pc = .ok (.bipush z, 2)) (hv : (Int8.ofInt z).toInt32 = v) (kk : Z C nL k n (pc + 2) L (.int v :: st) ws) : Z C nL k n pc L st ws := by
  obtain ⟨hx, hb, hml, hown, hts, hK, hlk, hR, hA, hk1, hk2⟩ := hC
  exact fun H locs ls hP hD hS hl => lv_bipush hx hb d hv (kk H locs ls hP hD hS hl)
theorem Z_sipush (hC : YF C own cc nL rm) {z : Int} {v : Int32} (d : decode cc pc = .ok (.sipush z, 3)) (hv : (Int16.ofInt z).toInt32 = v) (kk : Z C nL k n (pc + 3) L (.int v :: st) ws) : Z C nL k n pc L st ws := by
  obtain ⟨hx, hb, hml, hown, hts, hK, hlk, hR, hA, hk1, hk2⟩ := hC
  exact fun H locs ls hP hD hS hl => lv_sipush hx hb d hv (kk H locs ls hP hD hS hl)
theorem Z_ldc (hC : YF C own cc nL rm) {idx : Nat} {v : Int32} (hc : Cond.constant own idx v ∈ ALLW) (d : decode cc pc = .ok (.ldc idx, 2)) (kk : Z C nL k n (pc + 2) L (.int v :: st) ws) : Z C nL k n pc L st ws := by
  obtain ⟨hx, hb, hml, hown, hts, hK, hlk, hR, hA, hk1, hk2⟩ := hC
  exact fun H locs ls hP hD hS hl => lv_ldc hx hb hown (hts _ hc) d (kk H locs ls hP hD hS hl)
theorem Z_aload_n (hC : YF C own cc nL rm) {z : Fin 4} {i x : Nat} (d : decode cc pc = .ok (.aload_n z, 1)) (hi : (z : Nat) = i) (j : Nat) (hj : L[j]? = some (i, .ref x)) (kk : Z C nL k n (pc + 1) L (.ref x :: st) ws) : Z C nL k n pc L st ws := by
  obtain ⟨hx, hb, hml, hown, hts, hK, hlk, hR, hA, hk1, hk2⟩ := hC
  exact fun H locs ls hP hD hS hl => lv_aload_n hx hb d hi (lv_at hl j hj) (kk H locs ls hP hD hS hl)
theorem Z_aload (hC : YF C own cc nL rm) {i x : Nat} (d : decode cc pc = .ok (.aload i, 2)) (j : Nat) (hj : L[j]? = some (i, .ref x)) (kk : Z C nL k n (pc + 2) L (.ref x :: st) ws) : Z C nL k n pc L st ws := by
  obtain ⟨hx, hb, hml, hown, hts, hK, hlk, hR, hA, hk1, hk2⟩ := hC
  exact fun H locs ls hP hD hS hl => lv_aload hx hb d (lv_at hl j hj) (kk H locs ls hP hD hS hl)
theorem Z_dup (hC : YF C own cc nL rm) {v : Value} (d : decode cc pc = .ok (.dup, 1)) (h : v.category = 1) (kk : Z C nL k n (pc + 1) L (v :: v :: st) ws) : Z C nL k n pc L (v :: st) ws := by
  obtain ⟨hx, hb, hml, hown, hts, hK, hlk, hR, hA, hk1, hk2⟩ := hC
  exact fun H locs ls hP hD hS hl => lv_dup hx hb d h (kk H locs ls hP hD hS hl)
theorem Z_objInit (hC : YF C own cc nL rm) {idx a : Nat} (hm : Cond.methodLink own idx Lib.objectInit ∈ ALLW) (d : decode cc pc = .ok (.invokespecial idx, 3)) (hroom : 1 ≤ rm.frames ∧ 20 ≤ rm.locals) (kk : Z C nL k n (pc + 3) L [] ws) : Z C nL k n pc L [.ref a] ws := by
  obtain ⟨hx, hb, hml, hown, hts, hK, hlk, hR, hA, hk1, hk2⟩ := hC
  intro H locs ls hP hD hS hl
  refine W.objInit hx hb hown (hts _ hm) (hts _ oiI) (hts _ oiC) rfl (by rw [hml]; exact hl.1) rfl d (by rw [hR]; exact hroom.1) (by rw [hR]; show 2 * 0 + 0 + 12 ≤ _; omega) ?_
  exact kk H locs ls hP hD hS hl
theorem Z_newI (hC : YF C own cc nL rm) {v : Int32} {N : Nat} (hv : v = nI N) (hN : N ≤ 100000) (d : decode cc pc = .ok (.newarray .int, 2)) (hroom : k + 1 ≤ rm.cells ∧ n + N ≤ rm.slots) (kk : ∀ q : Nat, Z C nL (k + 1) (n + N) (pc + 2) L (.ref q :: st) (ws ++ [(q, .inl (C.cI, N, .inl (fun _ => 0)))])) : Z C nL k n pc L (.int v :: st) ws := by
  obtain ⟨hx, hb, hml, hown, hts, hK, hlk, hR, hA, hk1, hk2⟩ := hC
  intro H locs ls hP hD hS hl
  refine va_newa (atype := .int) (ty := .int) (a0 := (N, .inl (fun _ => 0))) (N' := N) hx hb (hts _ arrI) rfl hK hP hD hS hA (fun cA => rfl) (by rw [hv]; exact nI_pos (by omega)) (by rw [hv]; exact nI_clamp (by omega)) (by show N * 4 ≤ _; omega) (by rw [hR]; exact hroom.1) (by rw [hR]; exact hroom.2) d (fun q cA H hK2 hP hD hS => ?_)
  have hcA : C.cI = cA := by
    have h1 := (hK.2 0 _ rfl).2
    have h2 := (hK2.2 2 (cA, .int) rfl).2
    exact Option.some.inj ((show C.s.vm.findClass ("[" ++ FieldType.int.toString) = some C.cI from h1).symm.trans h2)
  subst hcA
  exact kk q H locs ls hP hD hS hl
theorem Z_newZ (hC : YF C own cc nL rm) {v : Int32} {N : Nat} (hv : v = nI N) (hN : N ≤ 100000) (d : decode cc pc = .ok (.newarray .boolean, 2)) (hroom : k + 1 ≤ rm.cells ∧ n + N ≤ rm.slots) (kk : ∀ q : Nat, Z C nL (k + 1) (n + N) (pc + 2) L (.ref q :: st) (ws ++ [(q, .inl (C.cZ, N, .inl (fun _ => 0)))])) : Z C nL k n pc L (.int v :: st) ws := by
  obtain ⟨hx, hb, hml, hown, hts, hK, hlk, hR, hA, hk1, hk2⟩ := hC
  intro H locs ls hP hD hS hl
  refine va_newa (atype := .boolean) (ty := .boolean) (a0 := (N, .inl (fun _ => 0))) (N' := N) hx hb (hts _ arrZ) rfl hK hP hD hS hA (fun cA => rfl) (by rw [hv]; exact nI_pos (by omega)) (by rw [hv]; exact nI_clamp (by omega)) (by show N * 1 ≤ _; omega) (by rw [hR]; exact hroom.1) (by rw [hR]; exact hroom.2) d (fun q cA H hK2 hP hD hS => ?_)
  have hcA : C.cZ = cA := by
    have h1 := (hK.2 1 _ rfl).2
    have h2 := (hK2.2 2 (cA, .boolean) rfl).2
    exact Option.some.inj ((show C.s.vm.findClass ("[" ++ FieldType.boolean.toString) = some C.cZ from h1).symm.trans h2)
  subst hcA
  exact kk q H locs ls hP hD hS hl
theorem Z_put {q0 a idx ci j : Nat} {fs : List Value} {t : FieldType} {v : Value} (hC : YF C own cc nL rm) (he : ws[q0]? = some (a, .inr (ci, fs))) (hf : FL own idx ci j) (hp : FPc ci) (ht : FT ci j t) (hn : narrow t v = v) (hfit : fits t v = true) (hl' : j < fs.length) (hw : ws.set q0 (a, .inr (ci, fs.set j v)) = ws') (d : decode cc pc = .ok (.putfield idx, 3)) (kk : Z C nL k n (pc + 3) L st ws') : Z C nL k n pc L (v :: .ref a :: st) ws := by
  obtain ⟨hx, hb, hml, hown, hts, hK, hlk, hR, hA, hk1, hk2⟩ := hC
  obtain ⟨R, T, N, hc, hN, hin, hlink⟩ := hf
  obtain ⟨R2, T2, N2, ty, hc2, hty, hnm⟩ := hp
  cases hc.symm.trans hc2
  obtain ⟨R3, T3, N3, hc3, hfin, hd⟩ := ht
  cases hc.symm.trans hc3
  subst hw
  intro H locs ls hP hD hS hl
  exact va_put (q0 := q0) hx hb hts hin ty hty hnm hown hK hP hD hS he hc j hN (hts _ hlink) (fun _ h => h) hfin hd hn hfit hl' d (fun H1 locs1 hP1 hD1 hS1 => kk H1 locs1 ls hP1 hD1 hS1 hl)
/-- a final field's type -/
def FTf (own : String) (ci j : Nat) (t : FieldType) : Prop := ∃ (R : String) (T : u_T) (N : Nat), classes[ci]? = some (R, T, N) ∧ (T j).2.2.2 = true ∧ (T j).1 = own ∧ parseFieldDescriptor (T j).2.2.1 = some t
theorem Z_putF {q0 a idx ci j : Nat} {fs : List Value} {t : FieldType} {v : Value} (hC : YF C own cc nL rm) (hin2 : C.meth.name = "<init>") (he : ws[q0]? = some (a, .inr (ci, fs))) (hf : FL own idx ci j) (hp : FPc ci) (ht : FTf own ci j t) (hn : narrow t v = v) (hfit : fits t v = true) (hl' : j < fs.length) (hw : ws.set q0 (a, .inr (ci, fs.set j v)) = ws') (d : decode cc pc = .ok (.putfield idx, 3)) (kk : Z C nL k n (pc + 3) L st ws') : Z C nL k n pc L (v :: .ref a :: st) ws := by
  obtain ⟨hx, hb, hml, hown, hts, hK, hlk, hR, hA, hk1, hk2⟩ := hC
  obtain ⟨R, T, N, hc, hN, hin, hlink⟩ := hf
  obtain ⟨R2, T2, N2, ty, hc2, hty, hnm⟩ := hp
  cases hc.symm.trans hc2
  obtain ⟨R3, T3, N3, hc3, hfin, hown3, hd⟩ := ht
  cases hc.symm.trans hc3
  subst hw
  intro H locs ls hP hD hS hl
  exact va_putF (q0 := q0) hx hb hts hin ty hty hnm hown hK hP hD hS he hc j hN (hts _ hlink) (fun _ h => h) hfin hin2 hown3 hd hn hfit hl' d (fun H1 locs1 hP1 hD1 hS1 => kk H1 locs1 ls hP1 hD1 hS1 hl)
theorem Z_get {q0 a idx ci j : Nat} {fs : List Value} {v : Value} (hC : YF C own cc nL rm) (he : ws[q0]? = some (a, .inr (ci, fs))) (hf : FL own idx ci j) (hv : fs[j]? = some v) (d : decode cc pc = .ok (.getfield idx, 3)) (kk : Z C nL k n (pc + 3) L (v :: st) ws) : Z C nL k n pc L (.ref a :: st) ws := by
  obtain ⟨hx, hb, hml, hown, hts, hK, hlk, hR, hA, hk1, hk2⟩ := hC
  obtain ⟨R, T, N, hc, hN, hin, hlink⟩ := hf
  intro H locs ls hP hD hS hl
  exact va_get (q0 := q0) hx hb hts hin hown hK hP he hc j hN (hts _ hlink) (fun _ h => h) hv d (kk H locs ls hP hD hS hl)
/-- what 'new' of a class needs -/
def NewOk (own : String) (idx ci : Nat) (fs : List Value) : Prop := ∃ (R : String) (T : u_T) (N : Nat) (ty : Nat → FieldType), classes[ci]? = some (R, T, N) ∧ (∀ w ∈ u_ws R T N, w ∈ ALLW) ∧ (∀ k, k < N → parseFieldDescriptor (T k).2.2.1 = some (ty k)) ∧ Cond.classLink own idx R ∈ ALLW ∧ Cond.instantiable R N ∈ ALLW ∧ Cond.initialized R ∈ ALLW ∧ (∀ j, j < N → defaultValue (ty j) = vp_V fs j) ∧ N = fs.length
theorem Z_new {idx ci : Nat} {fs : List Value} (hC : YF C own cc nL rm) (hN : NewOk own idx ci fs) (d : decode cc pc = .ok (.new idx, 3)) (hroom : k + 1 ≤ rm.cells ∧ n + fs.length ≤ rm.slots) (kk : ∀ q : Nat, Z C nL (k + 1) (n + fs.length) (pc + 3) L (.ref q :: st) (ws ++ [(q, .inr (ci, fs))])) : Z C nL k n pc L st ws := by
  obtain ⟨hx, hb, hml, hown, hts, hK, hlk, hR, hA, hk1, hk2⟩ := hC
  obtain ⟨R, T, N, ty, hc, hin, hty, h1, h2, h3, h4, rfl⟩ := hN
  intro H locs ls hP hD hS hl
  exact va_new hx hb hts hin ty hty hown (hts _ h1) (hts _ h2) (hts _ h3) hK hP hD hS hA hc h4 (by rw [hR]; exact hroom.1) (by rw [hR]; exact hroom.2) d (fun q H1 hP1 hD1 hS1 => kk q H1 locs ls hP1 hD1 hS1 hl)
/-- a constructor's contract: the object h0 of class ci, blank, becomes the cells that B says -/
def KM (l : Launch) (D : va_G) (cI cZ : ClassId) (y : MethodName) (cc : ByteArray) (maxL : Nat) (rm : Room) (h0 : Nat) (bl : va_E) (As : List Value) (X : State → Prop) (B : va_W → Prop) : Prop :=
  ∀ sz : Nat, Met l y (Cond.code y cc maxL none :: ALLW) rm (va_Pc (.ref h0 :: As) (fun U => U.heap.size = sz ∧ va_P D classes [(h0, bl)] U.heap ∧ va_K D classes (tysOf cI cZ) U ∧ va_D (fun _ => True) [(h0, bl)] ∧ X U))
    (va_Qv (fun (_ : Unit) => True) (fun _ t => ∃ w : va_W, B w ∧ va_P D classes w t.heap ∧ va_D (va_A [(h0, bl)] sz) w) (va_A [(h0, bl)] sz)) rm.cells rm.slots (va_A [(h0, bl)] sz)
def KE (C : YC) (rm : Room) (h0 : Nat) (bl : va_E) (B : va_W → Prop) : Prop := C.meth.sig.returnType = none ∧ C.meth.name = "<init>" ∧ C.Q = MQ C.below (va_Qv (fun (_ : Unit) => True) (fun _ t => ∃ w : va_W, B w ∧ va_P C.D classes w t.heap ∧ va_D C.A w) C.A) C.args C.s rm.cells rm.slots C.A
theorem Z_vret {h0 : Nat} {bl : va_E} {B : va_W → Prop} (hC : YF C own cc nL rm) (hE : KE C rm h0 bl B) (hk : k ≤ rm.cells ∧ n ≤ rm.slots) (d : decode cc pc = .ok (.return_, 1)) (hB : B ws) : Z C nL k n pc L [] ws := by
  obtain ⟨hx, hb, hml, hown, hts, hK, hlk, hR, hA, hk1, hk2⟩ := hC
  obtain ⟨hr, -, hQ⟩ := hE
  intro H locs ls hP hD hS hl
  show W _ _ _ _ _ _ _ _ _ _ _ _ _ _ C.Q _
  rw [hQ]
  refine W.widen hk.1 hk.2 ?_
  exact W.vret hx hb hr (fun t ht hW => ⟨⟨(), rfl, trivial, ws, hB, by rw [ht]; exact hP, hD⟩, hS.F ht⟩) hS.2.2 d hlk
theorem KM_of {l : Launch} {D : va_G} {cI cZ : ClassId} {y : MethodName} {maxL h0 : Nat} {bl : va_E} {As : List Value} {X : State → Prop} {B : va_W → Prop} (hy : plainName y.cls = true) (hyn : y.name = "<init>") (hlen : (lg_sl (.ref h0 :: As)).length ≤ maxL)
    (body : ∀ C : YC, C.l = l → C.D = D → C.cI = cI → C.cZ = cZ → YF C y.cls cc maxL rm → KE C rm h0 bl B → X C.s → Z C maxL 0 0 0 (lv_args 0 (.ref h0 :: As)) [] [(h0, bl)]) : KM l D cI cZ y cc maxL rm h0 bl As X B := by
  intro sz
  refine Met.ofW (cc := cc) (maxL := maxL) (ret := none) hy rfl ?_
  intro p e s m args below meth c s₁ BB hml hv
  obtain ⟨rfl, hsz, hP, hK, hD0, hX⟩ := hv
  subst hsz
  have hts0 := atoms_spec (ws := Cond.code y cc maxL none :: ALLW) BB.pre
  have hb := body ((p, l, e, (headSpec (Cond.code y cc maxL none :: ALLW) rm).room, s), (m, (.ref h0 :: As).toArray, below, meth, c), (D, cI, cZ), (fun _ => 0, va_A [(h0, bl)] s.heap.size), (0, 0), MQ below (va_Qv (fun (_ : Unit) => True) (fun _ t => ∃ w : va_W, B w ∧ va_P D classes w t.heap ∧ va_D (va_A [(h0, bl)] s.heap.size) w) (va_A [(h0, bl)] s.heap.size)) (.ref h0 :: As).toArray s rm.cells rm.slots (va_A [(h0, bl)] s.heap.size)) rfl rfl rfl rfl
    ⟨BB.exec, BB.bytes, hml, findClass_of_methodNamed BB.named, fun w hw => hts0 w (List.mem_cons_of_mem _ hw), hK, BB.notSynchronized, rfl, fun q h => Or.inr h, Nat.zero_le _, Nat.zero_le _⟩ ⟨BB.returns, (name_of_methodNamed BB.named BB.method).1.trans hyn, rfl⟩ hX
  have hl := lv_entry (.ref h0 :: As) (n := maxL) hlen
  rw [lg_entry_eq]
  exact hb s.heap [] _ hP hD0.self va_S.rf hl
theorem KM_blind {D : va_G} {cI cZ : ClassId} {av : List Value} {w : va_W} {X : State → Prop} {sz : Nat} (hX : ∀ u U : State, u.vm = U.vm → X u → X U) : FrameBlind (va_Pc av (fun U => U.heap.size = sz ∧ va_P D classes w U.heap ∧ va_K D classes (tysOf cI cZ) U ∧ va_D (fun _ => True) w ∧ X U)) := fun a U g mk q => by
  obtain ⟨q0, q1, qP, qK, qD, qX⟩ := q
  exact ⟨q0, q1, qP, va_K.moved (u := U) (U := U.calling g mk a) (Vm.Alike.refl U.vm) qK, qD, hX U _ rfl qX⟩
theorem Z_callI {q idx maxL' : Nat} {y : MethodName} {cc' : ByteArray} {rm' : Room} {bl : va_E} {As rest : List Value} {B : va_W → Prop} {is : List Nat} {wr : va_W} (hC : YF C own cc nL rm) (hM : KM C.l C.D C.cI C.cZ y cc' maxL' rm' q bl As (fun _ => True) B) (qi : Nat) (hq : ws[qi]? = some (q, bl)) (hyn : y.name = "<init>")
    (hm : (MLb own idx y cc' maxL' none As.length ∨ (Cond.code y cc' maxL' none ∈ ALLW ∧ va_Nw (.methodLinkNest own idx y "LinkYard") C.s ∧ Cond.initialized y.cls ∈ ALLW ∧ (y.cls ≠ "java/lang/invoke/MethodHandle" ∧ y.cls ≠ "java/lang/invoke/VarHandle" ∧ (parseMethodDescriptor y.desc).map (fun d => d.parameters.length) = some As.length)))) (hv : Cond.instanceMethod y ∈ ALLW)
    (hroom : (rm'.frames + 1 ≤ rm.frames ∧ 8 + (maxL' + 11) + rm'.locals ≤ rm.locals) ∧ k + rm'.cells ≤ rm.cells ∧ n + rm'.slots ≤ rm.slots) (hcat : (rest.map fun v => v.category).sum ≤ 8) (hst : st = As.reverse ++ .ref q :: rest) (d : decode cc pc = .ok (.invokespecial idx, 3))
    (hR0 : is.map (fun i => ws[i]?) = wr.map some) (hnd : va_nd is = true) (hni : ∀ i ∈ is, i ∉ [qi])
    (kk : ∀ w : va_W, B w → Z C nL (k + rm'.cells) (n + rm'.slots) (pc + 3) L rest (wr ++ w)) : Z C nL k n pc L st ws := by
  obtain ⟨hx, hb, hml, hown, hts, hK, hlk, hR, hA, hk1, hk2⟩ := hC
  subst hst
  intro H locs ls hP hD hS hl
  have hC1 : [qi].map (fun i => ws[i]?) = ([(q, bl)] : va_W).map some := by simp [hq]
  have hFc := va_free (wc := [(q, bl)]) hD hS hA [qi] hC1
  have hrun : va_Run C.p C.l C.e C.R C.s C.m C.args C.below C.meth C.c H locs k n rm'.cells rm'.slots (F0 C.m pc ls (As.reverse ++ .ref q :: rest)) rest (va_Qv (fun (_ : Unit) => True) (fun _ t => ∃ w : va_W, B w ∧ va_P C.D classes w t.heap ∧ va_D (va_A [(q, bl)] H.size) w) (va_A [(q, bl)] H.size) (.ref q :: As).toArray) (va_A [(q, bl)] H.size) := by
    have hpre : PreS C.s H (va_Pc (.ref q :: As) (fun U => U.heap.size = H.size ∧ va_P C.D classes [(q, bl)] U.heap ∧ va_K C.D classes (tysOf C.cI C.cZ) U ∧ va_D (fun _ => True) [(q, bl)] ∧ True)) (.ref q :: As) :=
      ⟨KM_blind (X := fun _ => True) (fun _ _ _ h => h), fun U hU hW => ⟨rfl, by rw [hU], by rw [hU]; exact P_one (hP qi _ hq), va_K.moved hW.alike hK, D_one trivial, trivial⟩⟩
    rcases hm with hm | ⟨h1, h2, h3, h4⟩
    · exact va_runI (As := As) (rest := rest) ⟨hx, hb, hml, hown, hts⟩ (hM H.size) (cwI As.length hts (gd_code hm.1) rfl rfl rfl (hts _ hm.2.2.1) (hts _ hm.2.1) (hts _ hv) hyn hm.2.2.2 (by rw [hR]; exact hroom.1)) hpre rfl rfl hl.1 rfl (lv_room hcat) d ⟨by rw [hR]; exact hroom.2.1, by rw [hR]; exact hroom.2.2⟩
    · exact va_runIN (As := As) (rest := rest) ⟨hx, hb, hml, hown, hts⟩ (hM H.size) ⟨va_cnB As.length hts (gd_code h1) rfl rfl rfl h2 (hts _ h3) h4 (by rw [hR]; exact hroom.1), hyn, hts _ hv⟩ hpre rfl rfl hl.1 rfl (lv_room hcat) d ⟨by rw [hR]; exact hroom.2.1, by rw [hR]; exact hroom.2.2⟩
  refine va_callv hrun hS (fun q _ h => hFc q h) hFc (fun u t H1 locs ht hvm hw' hB hz1 hkk hS => ?_)
  obtain ⟨w, hBw, hP1, hD1⟩ := hB
  rw [ht] at hP1
  obtain ⟨hP2, hD2⟩ := va_join (wr := wr) (w1 := w) hP hD [qi] is hC1 hR0 hnd hni hkk hFc hP1 hD1
  exact kk w hBw H1 locs ls hP2 hD2 hS hl
theorem Z_sub (is : List Nat) (hnd : va_nd is = true) (hs : is.map (fun i => ws[i]?) = ws'.map some) (kk : Z C nL k n pc L st ws') : Z C nL k n pc L st ws := by
  intro H locs ls hP hD hS hl
  refine kk H locs ls (hP.sub is ?_) (hD.sub is hnd hs) hS hl
  have h : ∀ (is : List Nat) (w : va_W), is.map (fun i => ws[i]?) = w.map some → is.filterMap (fun i => ws[i]?) = w := by
    intro is
    induction is with
    | nil =>
      intro w h
      cases w with
      | nil => rfl
      | cons x w => cases h
    | cons i is ih =>
      intro w h
      cases w with
      | nil => cases h
      | cons x w =>
        rw [List.map_cons, List.map_cons] at h
        injection h with h1 h2
        rw [List.filterMap_cons, h1, ih w h2]
  exact h is ws' hs
end ZR
