/-! The walk over a fixed graph: Y C shp nL pc L st V: the machine at pc, with the locals L, the operand stack st, the graph's cells as V says, comes to C's end. -/
abbrev YC : Type := (Program × Launch × Env × Room × State) × (MethodId × Array Value × List Frame × Method × Code) × (va_G × ClassId × ClassId) × ((Nat → Nat) × (Nat → Prop)) × (Nat × Nat) × (State → Prop)
abbrev YC.p (C : YC) : Program := C.1.1
abbrev YC.l (C : YC) : Launch := C.1.2.1
abbrev YC.e (C : YC) : Env := C.1.2.2.1
abbrev YC.R (C : YC) : Room := C.1.2.2.2.1
abbrev YC.s (C : YC) : State := C.1.2.2.2.2
abbrev YC.m (C : YC) : MethodId := C.2.1.1
abbrev YC.args (C : YC) : Array Value := C.2.1.2.1
abbrev YC.below (C : YC) : List Frame := C.2.1.2.2.1
abbrev YC.meth (C : YC) : Method := C.2.1.2.2.2.1
abbrev YC.c (C : YC) : Code := C.2.1.2.2.2.2
abbrev YC.D (C : YC) : va_G := C.2.2.1.1
abbrev YC.cI (C : YC) : ClassId := C.2.2.1.2.1
abbrev YC.cZ (C : YC) : ClassId := C.2.2.1.2.2
def YC.a (C : YC) : Nat → Nat := C.2.2.2.1.1
abbrev YC.A (C : YC) : Nat → Prop := C.2.2.2.1.2
abbrev YC.k (C : YC) : Nat := C.2.2.2.2.1.1
abbrev YC.n (C : YC) : Nat := C.2.2.2.2.1.2
abbrev YC.Q (C : YC) : State → Prop := C.2.2.2.2.2
abbrev YC.go (C : YC) (H : Heap) (locs : List Loc) (g : JFrame) : Prop := W C.p C.l C.e C.R C.s C.m C.args C.below C.meth C.c H locs C.k C.n C.Q g
abbrev YC.ws (C : YC) (shp : List Shp) (V : Sto) : va_W := wsF C.cI C.cZ C.a V 0 shp
abbrev tysOf (cI cZ : ClassId) : List (ClassId × FieldType) := [(cI, .int), (cZ, .boolean)]
def Y (C : YC) (shp : List Shp) (nL pc : Nat) (L : List (Nat × Value)) (st : List Value) (V : Sto) : Prop :=
  ∀ (H : Heap) (locs : List Loc) (ls : Array Slot), va_P C.D classes (C.ws shp V) H → va_D (fun _ => True) (C.ws shp V) → va_S C.A C.s.heap H locs → lv_has ls nL L → C.go H locs (F0 C.m pc ls st)
/-- what stands fast in a method's walk -/
def YF (C : YC) (own : String) (cc : ByteArray) (nL : Nat) (rm : Room) : Prop :=
  C.p.tables.exec = Jvm.exec ∧ C.c.code = cc ∧ C.c.maxLocals = nL ∧ C.s.vm.findClass own = some C.m.cls ∧ (∀ w ∈ ALLW, w.before C.args C.s = true) ∧ va_K C.D classes (tysOf C.cI C.cZ) C.s ∧ C.meth.locks = false ∧ C.R = rm ∧ (∀ q : Nat, C.s.heap.size ≤ q → C.A q) ∧ C.k ≤ C.R.cells ∧ C.n ≤ C.R.slots
/-- the graph's cells may be written -/
def YWr (C : YC) (shp : List Shp) : Prop := ∀ k, k < shp.length → C.A (C.a k)
theorem wsF_A {C : YC} {shp : List Shp} {V : Sto} (hw : YWr C shp) (h : va_D (fun _ => True) (C.ws shp V)) : va_D C.A (C.ws shp V) := by
  refine h.weaken (fun k q hk _ => ?_)
  rw [wsF_at] at hk
  cases hs : shp[k]? with
  | none => rw [hs] at hk; cases hk
  | some sh =>
    rw [hs] at hk
    cases hk
    rw [Nat.zero_add]
    exact hw k (List.getElem?_eq_some_iff.mp hs).1
section YR
variable {C : YC} {own : String} {cc : ByteArray} {nL pc : Nat} {rm : Room} {shp : List Shp} {L : List (Nat × Value)} {st : List Value} {V : Sto}
theorem Y_sub (ks : List Nat) {L' : List (Nat × Value)} (h : lv_pick L ks = L') (k : Y C shp nL pc L' st V) : Y C shp nL pc L st V := fun H locs ls hP hD hS hl => k H locs ls hP hD hS (lv_sub hl ks h)

theorem Y_iconst (hC : YF C own cc nL rm) {n : Int} {v : Int32} (d : decode cc pc = .ok (.iconst n, 1)) (hv : Int32.ofInt n = v)
    (k : Y C shp nL (pc + 1) L (.int v :: st) V) : Y C shp nL pc L (st) V := by
  obtain ⟨hx, hb, hml, hown, hts, hK, hlk, hR, hA, hk1, hk2⟩ := hC
  intro H locs ls hP hD hS hl
  exact lv_iconst hx hb d hv (k H locs ls hP hD hS hl)

theorem Y_bipush (hC : YF C own cc nL rm) {n : Int} {v : Int32} (d : decode cc pc = .ok (.bipush n, 2)) (hv : (Int8.ofInt n).toInt32 = v)
    (k : Y C shp nL (pc + 2) L (.int v :: st) V) : Y C shp nL pc L (st) V := by
  obtain ⟨hx, hb, hml, hown, hts, hK, hlk, hR, hA, hk1, hk2⟩ := hC
  intro H locs ls hP hD hS hl
  exact lv_bipush hx hb d hv (k H locs ls hP hD hS hl)

theorem Y_sipush (hC : YF C own cc nL rm) {n : Int} {v : Int32} (d : decode cc pc = .ok (.sipush n, 3)) (hv : (Int16.ofInt n).toInt32 = v)
    (k : Y C shp nL (pc + 3) L (.int v :: st) V) : Y C shp nL pc L (st) V := by
  obtain ⟨hx, hb, hml, hown, hts, hK, hlk, hR, hA, hk1, hk2⟩ := hC
  intro H locs ls hP hD hS hl
  exact lv_sipush hx hb d hv (k H locs ls hP hD hS hl)

theorem Y_ldc (hC : YF C own cc nL rm) {idx : Nat} {v : Int32} (hc : Cond.constant own idx v ∈ ALLW) (d : decode cc pc = .ok (.ldc idx, 2))
    (k : Y C shp nL (pc + 2) L (.int v :: st) V) : Y C shp nL pc L (st) V := by
  obtain ⟨hx, hb, hml, hown, hts, hK, hlk, hR, hA, hk1, hk2⟩ := hC
  intro H locs ls hP hD hS hl
  exact lv_ldc hx hb hown (hts _ hc) d (k H locs ls hP hD hS hl)

theorem Y_ldcw (hC : YF C own cc nL rm) {idx : Nat} {v : Int32} (hc : Cond.constant own idx v ∈ ALLW) (d : decode cc pc = .ok (.ldc_w idx, 3))
    (k : Y C shp nL (pc + 3) L (.int v :: st) V) : Y C shp nL pc L (st) V := by
  obtain ⟨hx, hb, hml, hown, hts, hK, hlk, hR, hA, hk1, hk2⟩ := hC
  intro H locs ls hP hD hS hl
  exact lv_ldcw hx hb hown (hts _ hc) d (k H locs ls hP hD hS hl)

theorem Y_ldc2 (hC : YF C own cc nL rm) {idx : Nat} {v : Int64} (hc : Cond.constantLong own idx v ∈ ALLW) (d : decode cc pc = .ok (.ldc2_w idx, 3))
    (k : Y C shp nL (pc + 3) L (.long v :: st) V) : Y C shp nL pc L (st) V := by
  obtain ⟨hx, hb, hml, hown, hts, hK, hlk, hR, hA, hk1, hk2⟩ := hC
  intro H locs ls hP hD hS hl
  exact lv_ldc2 hx hb hown (hts _ hc) d (k H locs ls hP hD hS hl)

theorem Y_lconst (hC : YF C own cc nL rm) {n : Fin 2} {v : Int64} (d : decode cc pc = .ok (.lconst n, 1)) (hv : Int64.ofNat (n : Nat) = v)
    (k : Y C shp nL (pc + 1) L (.long v :: st) V) : Y C shp nL pc L (st) V := by
  obtain ⟨hx, hb, hml, hown, hts, hK, hlk, hR, hA, hk1, hk2⟩ := hC
  intro H locs ls hP hD hS hl
  exact lv_lconst hx hb d hv (k H locs ls hP hD hS hl)

theorem Y_iload_n (hC : YF C own cc nL rm) {n : Fin 4} {i : Nat} {x : Int32} (d : decode cc pc = .ok (.iload_n n, 1)) (hi : (n : Nat) = i) (j : Nat) (hj : L[j]? = some (i, .int x))
    (k : Y C shp nL (pc + 1) L (.int x :: st) V) : Y C shp nL pc L (st) V := by
  obtain ⟨hx, hb, hml, hown, hts, hK, hlk, hR, hA, hk1, hk2⟩ := hC
  intro H locs ls hP hD hS hl
  exact lv_iload_n hx hb d hi (lv_at hl j hj) (k H locs ls hP hD hS hl)

theorem Y_iload (hC : YF C own cc nL rm) {i : Nat} {x : Int32} (d : decode cc pc = .ok (.iload i, 2)) (j : Nat) (hj : L[j]? = some (i, .int x))
    (k : Y C shp nL (pc + 2) L (.int x :: st) V) : Y C shp nL pc L (st) V := by
  obtain ⟨hx, hb, hml, hown, hts, hK, hlk, hR, hA, hk1, hk2⟩ := hC
  intro H locs ls hP hD hS hl
  exact lv_iload hx hb d (lv_at hl j hj) (k H locs ls hP hD hS hl)

theorem Y_istore_n (hC : YF C own cc nL rm) {n : Fin 4} {i : Nat} {x : Int32} {L' : List (Nat × Value)} (d : decode cc pc = .ok (.istore_n n, 1)) (hi : (n : Nat) = i) (hn : i < nL) (hL : (i, Value.int x) :: L.filter (fun q => !(q.1 == i) && !(q.1 + 1 == i && q.2.category == 2)) = L')
    (k : Y C shp nL (pc + 1) L' (st) V) : Y C shp nL pc L (.int x :: st) V := by
  obtain ⟨hx, hb, hml, hown, hts, hK, hlk, hR, hA, hk1, hk2⟩ := hC
  intro H locs ls hP hD hS hl
  exact lv_istore_n hx hb d hi hl hn hL (fun ls hl => k H locs ls hP hD hS hl)

theorem Y_istore (hC : YF C own cc nL rm) {i : Nat} {x : Int32} {L' : List (Nat × Value)} (d : decode cc pc = .ok (.istore i, 2)) (hn : i < nL) (hL : (i, Value.int x) :: L.filter (fun q => !(q.1 == i) && !(q.1 + 1 == i && q.2.category == 2)) = L')
    (k : Y C shp nL (pc + 2) L' (st) V) : Y C shp nL pc L (.int x :: st) V := by
  obtain ⟨hx, hb, hml, hown, hts, hK, hlk, hR, hA, hk1, hk2⟩ := hC
  intro H locs ls hP hD hS hl
  exact lv_istore hx hb d hl hn hL (fun ls hl => k H locs ls hP hD hS hl)

theorem Y_lload_n (hC : YF C own cc nL rm) {n : Fin 4} {i : Nat} {x : Int64} (d : decode cc pc = .ok (.lload_n n, 1)) (hi : (n : Nat) = i) (j : Nat) (hj : L[j]? = some (i, .long x))
    (k : Y C shp nL (pc + 1) L (.long x :: st) V) : Y C shp nL pc L (st) V := by
  obtain ⟨hx, hb, hml, hown, hts, hK, hlk, hR, hA, hk1, hk2⟩ := hC
  intro H locs ls hP hD hS hl
  exact lv_lload_n hx hb d hi (lv_at hl j hj) (k H locs ls hP hD hS hl)

theorem Y_lload (hC : YF C own cc nL rm) {i : Nat} {x : Int64} (d : decode cc pc = .ok (.lload i, 2)) (j : Nat) (hj : L[j]? = some (i, .long x))
    (k : Y C shp nL (pc + 2) L (.long x :: st) V) : Y C shp nL pc L (st) V := by
  obtain ⟨hx, hb, hml, hown, hts, hK, hlk, hR, hA, hk1, hk2⟩ := hC
  intro H locs ls hP hD hS hl
  exact lv_lload hx hb d (lv_at hl j hj) (k H locs ls hP hD hS hl)

theorem Y_lstore_n (hC : YF C own cc nL rm) {n : Fin 4} {i : Nat} {x : Int64} {L' : List (Nat × Value)} (d : decode cc pc = .ok (.lstore_n n, 1)) (hi : (n : Nat) = i) (hn : i + 1 < nL) (hL : (i, Value.long x) :: L.filter (fun q => !(q.1 == i) && (!(q.1 == i + 1) && !(q.1 + 1 == i && q.2.category == 2))) = L')
    (k : Y C shp nL (pc + 1) L' (st) V) : Y C shp nL pc L (.long x :: st) V := by
  obtain ⟨hx, hb, hml, hown, hts, hK, hlk, hR, hA, hk1, hk2⟩ := hC
  intro H locs ls hP hD hS hl
  exact lv_lstore_n hx hb d hi hl hn hL (fun ls hl => k H locs ls hP hD hS hl)

theorem Y_lstore (hC : YF C own cc nL rm) {i : Nat} {x : Int64} {L' : List (Nat × Value)} (d : decode cc pc = .ok (.lstore i, 2)) (hn : i + 1 < nL) (hL : (i, Value.long x) :: L.filter (fun q => !(q.1 == i) && (!(q.1 == i + 1) && !(q.1 + 1 == i && q.2.category == 2))) = L')
    (k : Y C shp nL (pc + 2) L' (st) V) : Y C shp nL pc L (.long x :: st) V := by
  obtain ⟨hx, hb, hml, hown, hts, hK, hlk, hR, hA, hk1, hk2⟩ := hC
  intro H locs ls hP hD hS hl
  exact lv_lstore hx hb d hl hn hL (fun ls hl => k H locs ls hP hD hS hl)

theorem Y_aload_n (hC : YF C own cc nL rm) {n : Fin 4} {i : Nat} {x : Nat} (d : decode cc pc = .ok (.aload_n n, 1)) (hi : (n : Nat) = i) (j : Nat) (hj : L[j]? = some (i, .ref x))
    (k : Y C shp nL (pc + 1) L (.ref x :: st) V) : Y C shp nL pc L (st) V := by
  obtain ⟨hx, hb, hml, hown, hts, hK, hlk, hR, hA, hk1, hk2⟩ := hC
  intro H locs ls hP hD hS hl
  exact lv_aload_n hx hb d hi (lv_at hl j hj) (k H locs ls hP hD hS hl)

theorem Y_aload (hC : YF C own cc nL rm) {i : Nat} {x : Nat} (d : decode cc pc = .ok (.aload i, 2)) (j : Nat) (hj : L[j]? = some (i, .ref x))
    (k : Y C shp nL (pc + 2) L (.ref x :: st) V) : Y C shp nL pc L (st) V := by
  obtain ⟨hx, hb, hml, hown, hts, hK, hlk, hR, hA, hk1, hk2⟩ := hC
  intro H locs ls hP hD hS hl
  exact lv_aload hx hb d (lv_at hl j hj) (k H locs ls hP hD hS hl)

theorem Y_astore_n (hC : YF C own cc nL rm) {n : Fin 4} {i : Nat} {x : Nat} {L' : List (Nat × Value)} (d : decode cc pc = .ok (.astore_n n, 1)) (hi : (n : Nat) = i) (hn : i < nL) (hL : (i, Value.ref x) :: L.filter (fun q => !(q.1 == i) && !(q.1 + 1 == i && q.2.category == 2)) = L')
    (k : Y C shp nL (pc + 1) L' (st) V) : Y C shp nL pc L (.ref x :: st) V := by
  obtain ⟨hx, hb, hml, hown, hts, hK, hlk, hR, hA, hk1, hk2⟩ := hC
  intro H locs ls hP hD hS hl
  exact lv_astore_n hx hb d hi hl hn hL (fun ls hl => k H locs ls hP hD hS hl)

theorem Y_astore (hC : YF C own cc nL rm) {i : Nat} {x : Nat} {L' : List (Nat × Value)} (d : decode cc pc = .ok (.astore i, 2)) (hn : i < nL) (hL : (i, Value.ref x) :: L.filter (fun q => !(q.1 == i) && !(q.1 + 1 == i && q.2.category == 2)) = L')
    (k : Y C shp nL (pc + 2) L' (st) V) : Y C shp nL pc L (.ref x :: st) V := by
  obtain ⟨hx, hb, hml, hown, hts, hK, hlk, hR, hA, hk1, hk2⟩ := hC
  intro H locs ls hP hD hS hl
  exact lv_astore hx hb d hl hn hL (fun ls hl => k H locs ls hP hD hS hl)

theorem Y_iinc (hC : YF C own cc nL rm) {i : Nat} {n : Int} {x v : Int32} {L' : List (Nat × Value)} (d : decode cc pc = .ok (.iinc i n, 3)) (j : Nat) (hj : L[j]? = some (i, .int x)) (hv : x + Int32.ofInt n = v) (hn : i < nL) (hL : (i, Value.int v) :: L.filter (fun q => !(q.1 == i) && !(q.1 + 1 == i && q.2.category == 2)) = L')
    (k : Y C shp nL (pc + 3) L' (st) V) : Y C shp nL pc L (st) V := by
  obtain ⟨hx, hb, hml, hown, hts, hK, hlk, hR, hA, hk1, hk2⟩ := hC
  intro H locs ls hP hD hS hl
  exact lv_iinc hx hb d hl hj hv hn hL (fun ls hl => k H locs ls hP hD hS hl)

theorem Y_iadd (hC : YF C own cc nL rm) {x y : Int32} (d : decode cc pc = .ok (.iadd, 1))
    (k : Y C shp nL (pc + 1) L (.int (x + y) :: st) V) : Y C shp nL pc L (.int y :: .int x :: st) V := by
  obtain ⟨hx, hb, hml, hown, hts, hK, hlk, hR, hA, hk1, hk2⟩ := hC
  intro H locs ls hP hD hS hl
  exact lv_iadd hx hb d (k H locs ls hP hD hS hl)

theorem Y_isub (hC : YF C own cc nL rm) {x y : Int32} (d : decode cc pc = .ok (.isub, 1))
    (k : Y C shp nL (pc + 1) L (.int (x - y) :: st) V) : Y C shp nL pc L (.int y :: .int x :: st) V := by
  obtain ⟨hx, hb, hml, hown, hts, hK, hlk, hR, hA, hk1, hk2⟩ := hC
  intro H locs ls hP hD hS hl
  exact lv_isub hx hb d (k H locs ls hP hD hS hl)

theorem Y_imul (hC : YF C own cc nL rm) {x y : Int32} (d : decode cc pc = .ok (.imul, 1))
    (k : Y C shp nL (pc + 1) L (.int (x * y) :: st) V) : Y C shp nL pc L (.int y :: .int x :: st) V := by
  obtain ⟨hx, hb, hml, hown, hts, hK, hlk, hR, hA, hk1, hk2⟩ := hC
  intro H locs ls hP hD hS hl
  exact lv_imul hx hb d (k H locs ls hP hD hS hl)

theorem Y_iand (hC : YF C own cc nL rm) {x y : Int32} (d : decode cc pc = .ok (.iand, 1))
    (k : Y C shp nL (pc + 1) L (.int (x &&& y) :: st) V) : Y C shp nL pc L (.int y :: .int x :: st) V := by
  obtain ⟨hx, hb, hml, hown, hts, hK, hlk, hR, hA, hk1, hk2⟩ := hC
  intro H locs ls hP hD hS hl
  exact lv_iand hx hb d (k H locs ls hP hD hS hl)

theorem Y_ior (hC : YF C own cc nL rm) {x y : Int32} (d : decode cc pc = .ok (.ior, 1))
    (k : Y C shp nL (pc + 1) L (.int (x ||| y) :: st) V) : Y C shp nL pc L (.int y :: .int x :: st) V := by
  obtain ⟨hx, hb, hml, hown, hts, hK, hlk, hR, hA, hk1, hk2⟩ := hC
  intro H locs ls hP hD hS hl
  exact lv_ior hx hb d (k H locs ls hP hD hS hl)

theorem Y_ixor (hC : YF C own cc nL rm) {x y : Int32} (d : decode cc pc = .ok (.ixor, 1))
    (k : Y C shp nL (pc + 1) L (.int (x ^^^ y) :: st) V) : Y C shp nL pc L (.int y :: .int x :: st) V := by
  obtain ⟨hx, hb, hml, hown, hts, hK, hlk, hR, hA, hk1, hk2⟩ := hC
  intro H locs ls hP hD hS hl
  exact lv_ixor hx hb d (k H locs ls hP hD hS hl)

theorem Y_ladd (hC : YF C own cc nL rm) {x y : Int64} (d : decode cc pc = .ok (.ladd, 1))
    (k : Y C shp nL (pc + 1) L (.long (x + y) :: st) V) : Y C shp nL pc L (.long y :: .long x :: st) V := by
  obtain ⟨hx, hb, hml, hown, hts, hK, hlk, hR, hA, hk1, hk2⟩ := hC
  intro H locs ls hP hD hS hl
  exact lv_ladd hx hb d (k H locs ls hP hD hS hl)

theorem Y_lsub (hC : YF C own cc nL rm) {x y : Int64} (d : decode cc pc = .ok (.lsub, 1))
    (k : Y C shp nL (pc + 1) L (.long (x - y) :: st) V) : Y C shp nL pc L (.long y :: .long x :: st) V := by
  obtain ⟨hx, hb, hml, hown, hts, hK, hlk, hR, hA, hk1, hk2⟩ := hC
  intro H locs ls hP hD hS hl
  exact lv_lsub hx hb d (k H locs ls hP hD hS hl)

theorem Y_lmul (hC : YF C own cc nL rm) {x y : Int64} (d : decode cc pc = .ok (.lmul, 1))
    (k : Y C shp nL (pc + 1) L (.long (x * y) :: st) V) : Y C shp nL pc L (.long y :: .long x :: st) V := by
  obtain ⟨hx, hb, hml, hown, hts, hK, hlk, hR, hA, hk1, hk2⟩ := hC
  intro H locs ls hP hD hS hl
  exact lv_lmul hx hb d (k H locs ls hP hD hS hl)

theorem Y_idiv (hC : YF C own cc nL rm) {x y : Int32} (d : decode cc pc = .ok (.idiv, 1)) (hne : ¬ y = 0)
    (k : Y C shp nL (pc + 1) L (.int (x / y) :: st) V) : Y C shp nL pc L (.int y :: .int x :: st) V := by
  obtain ⟨hx, hb, hml, hown, hts, hK, hlk, hR, hA, hk1, hk2⟩ := hC
  intro H locs ls hP hD hS hl
  exact lv_idiv hx hb d hne (k H locs ls hP hD hS hl)

theorem Y_irem (hC : YF C own cc nL rm) {x y : Int32} (d : decode cc pc = .ok (.irem, 1)) (hne : ¬ y = 0)
    (k : Y C shp nL (pc + 1) L (.int (x - x / y * y) :: st) V) : Y C shp nL pc L (.int y :: .int x :: st) V := by
  obtain ⟨hx, hb, hml, hown, hts, hK, hlk, hR, hA, hk1, hk2⟩ := hC
  intro H locs ls hP hD hS hl
  exact lv_irem hx hb d hne (k H locs ls hP hD hS hl)

theorem Y_lrem (hC : YF C own cc nL rm) {x y : Int64} (d : decode cc pc = .ok (.lrem, 1)) (hne : ¬ y = 0)
    (k : Y C shp nL (pc + 1) L (.long (x - x / y * y) :: st) V) : Y C shp nL pc L (.long y :: .long x :: st) V := by
  obtain ⟨hx, hb, hml, hown, hts, hK, hlk, hR, hA, hk1, hk2⟩ := hC
  intro H locs ls hP hD hS hl
  exact lv_lrem hx hb d hne (k H locs ls hP hD hS hl)

theorem Y_ineg (hC : YF C own cc nL rm) {x : Int32} (d : decode cc pc = .ok (.ineg, 1))
    (k : Y C shp nL (pc + 1) L (.int (-x) :: st) V) : Y C shp nL pc L (.int x :: st) V := by
  obtain ⟨hx, hb, hml, hown, hts, hK, hlk, hR, hA, hk1, hk2⟩ := hC
  intro H locs ls hP hD hS hl
  exact lv_ineg hx hb d (k H locs ls hP hD hS hl)

theorem Y_iushr (hC : YF C own cc nL rm) {x y v : Int32} (d : decode cc pc = .ok (.iushr, 1)) (hv : (x.toUInt32 >>> (y.toUInt32 &&& Int32.toUInt32 31)).toInt32 = v)
    (k : Y C shp nL (pc + 1) L (.int v :: st) V) : Y C shp nL pc L (.int y :: .int x :: st) V := by
  obtain ⟨hx, hb, hml, hown, hts, hK, hlk, hR, hA, hk1, hk2⟩ := hC
  intro H locs ls hP hD hS hl
  exact lv_iushr hx hb d hv (k H locs ls hP hD hS hl)

theorem Y_i2l (hC : YF C own cc nL rm) {x : Int32} (d : decode cc pc = .ok (.i2l, 1))
    (k : Y C shp nL (pc + 1) L (.long x.toInt64 :: st) V) : Y C shp nL pc L (.int x :: st) V := by
  obtain ⟨hx, hb, hml, hown, hts, hK, hlk, hR, hA, hk1, hk2⟩ := hC
  intro H locs ls hP hD hS hl
  exact lv_i2l hx hb d rfl (k H locs ls hP hD hS hl)

theorem Y_lcmp (hC : YF C own cc nL rm) {x y : Int64} (d : decode cc pc = .ok (.lcmp, 1))
    (k : Y C shp nL (pc + 1) L (.int (lg_cmp x y) :: st) V) : Y C shp nL pc L (.long y :: .long x :: st) V := by
  obtain ⟨hx, hb, hml, hown, hts, hK, hlk, hR, hA, hk1, hk2⟩ := hC
  intro H locs ls hP hD hS hl
  exact W.lcmp hx hb d (k H locs ls hP hD hS hl)

theorem Y_dup (hC : YF C own cc nL rm) {v : Value} (d : decode cc pc = .ok (.dup, 1)) (h : v.category = 1)
    (k : Y C shp nL (pc + 1) L (v :: v :: st) V) : Y C shp nL pc L (v :: st) V := by
  obtain ⟨hx, hb, hml, hown, hts, hK, hlk, hR, hA, hk1, hk2⟩ := hC
  intro H locs ls hP hD hS hl
  exact lv_dup hx hb d h (k H locs ls hP hD hS hl)

theorem Y_pop (hC : YF C own cc nL rm) {v : Value} (d : decode cc pc = .ok (.pop, 1)) (h : v.category = 1)
    (k : Y C shp nL (pc + 1) L (st) V) : Y C shp nL pc L (v :: st) V := by
  obtain ⟨hx, hb, hml, hown, hts, hK, hlk, hR, hA, hk1, hk2⟩ := hC
  intro H locs ls hP hD hS hl
  exact lv_pop hx hb d h (k H locs ls hP hD hS hl)

theorem Y_dup_x1 (hC : YF C own cc nL rm) {v w : Value} (d : decode cc pc = .ok (.dup_x1, 1)) (h : v.category = 1) (h' : w.category = 1)
    (k : Y C shp nL (pc + 1) L (v :: w :: v :: st) V) : Y C shp nL pc L (v :: w :: st) V := by
  obtain ⟨hx, hb, hml, hown, hts, hK, hlk, hR, hA, hk1, hk2⟩ := hC
  intro H locs ls hP hD hS hl
  exact lv_dup_x1 hx hb d h h' (k H locs ls hP hD hS hl)

theorem Y_dup2 (hC : YF C own cc nL rm) {v w : Value} (d : decode cc pc = .ok (.dup2, 1)) (h : v.category = 1) (h' : w.category = 1)
    (k : Y C shp nL (pc + 1) L (v :: w :: v :: w :: st) V) : Y C shp nL pc L (v :: w :: st) V := by
  obtain ⟨hx, hb, hml, hown, hts, hK, hlk, hR, hA, hk1, hk2⟩ := hC
  intro H locs ls hP hD hS hl
  exact lv_dup2_11 hx hb d h h' (k H locs ls hP hD hS hl)

theorem Y_if_eq (hC : YF C own cc nL rm) {x : Int32} {off : Int} (tgt : Nat) (d : decode cc pc = .ok (.ifCond .eq off, 3)) (ht : (pc : Int) + off = (tgt : Int))
    (kt : x = 0 → Y C shp nL tgt L st V) (kf : ¬ x = 0 → Y C shp nL (pc + 3) L st V) : Y C shp nL pc L (.int x :: st) V := by
  obtain ⟨hx, hb, hml, hown, hts, hK, hlk, hR, hA, hk1, hk2⟩ := hC
  intro H locs ls hP hD hS hl
  exact lv_if_eq hx hb d ht (fun q => kt q H locs ls hP hD hS hl) (fun q => kf q H locs ls hP hD hS hl)

theorem Y_icmp_eq (hC : YF C own cc nL rm) {x y : Int32} {off : Int} (tgt : Nat) (d : decode cc pc = .ok (.if_icmp .eq off, 3)) (ht : (pc : Int) + off = (tgt : Int))
    (kt : x = y → Y C shp nL tgt L st V) (kf : ¬ x = y → Y C shp nL (pc + 3) L st V) : Y C shp nL pc L (.int y :: .int x :: st) V := by
  obtain ⟨hx, hb, hml, hown, hts, hK, hlk, hR, hA, hk1, hk2⟩ := hC
  intro H locs ls hP hD hS hl
  exact lv_icmp_eq hx hb d ht (fun q => kt q H locs ls hP hD hS hl) (fun q => kf q H locs ls hP hD hS hl)

theorem Y_if_ne (hC : YF C own cc nL rm) {x : Int32} {off : Int} (tgt : Nat) (d : decode cc pc = .ok (.ifCond .ne off, 3)) (ht : (pc : Int) + off = (tgt : Int))
    (kt : ¬ x = 0 → Y C shp nL tgt L st V) (kf : x = 0 → Y C shp nL (pc + 3) L st V) : Y C shp nL pc L (.int x :: st) V := by
  obtain ⟨hx, hb, hml, hown, hts, hK, hlk, hR, hA, hk1, hk2⟩ := hC
  intro H locs ls hP hD hS hl
  exact lv_if_ne hx hb d ht (fun q => kt q H locs ls hP hD hS hl) (fun q => kf q H locs ls hP hD hS hl)

theorem Y_icmp_ne (hC : YF C own cc nL rm) {x y : Int32} {off : Int} (tgt : Nat) (d : decode cc pc = .ok (.if_icmp .ne off, 3)) (ht : (pc : Int) + off = (tgt : Int))
    (kt : ¬ x = y → Y C shp nL tgt L st V) (kf : x = y → Y C shp nL (pc + 3) L st V) : Y C shp nL pc L (.int y :: .int x :: st) V := by
  obtain ⟨hx, hb, hml, hown, hts, hK, hlk, hR, hA, hk1, hk2⟩ := hC
  intro H locs ls hP hD hS hl
  exact lv_icmp_ne hx hb d ht (fun q => kt q H locs ls hP hD hS hl) (fun q => kf q H locs ls hP hD hS hl)

theorem Y_if_lt (hC : YF C own cc nL rm) {x : Int32} {off : Int} (tgt : Nat) (d : decode cc pc = .ok (.ifCond .lt off, 3)) (ht : (pc : Int) + off = (tgt : Int))
    (kt : x < 0 → Y C shp nL tgt L st V) (kf : ¬ x < 0 → Y C shp nL (pc + 3) L st V) : Y C shp nL pc L (.int x :: st) V := by
  obtain ⟨hx, hb, hml, hown, hts, hK, hlk, hR, hA, hk1, hk2⟩ := hC
  intro H locs ls hP hD hS hl
  exact lv_if_lt hx hb d ht (fun q => kt q H locs ls hP hD hS hl) (fun q => kf q H locs ls hP hD hS hl)

theorem Y_icmp_lt (hC : YF C own cc nL rm) {x y : Int32} {off : Int} (tgt : Nat) (d : decode cc pc = .ok (.if_icmp .lt off, 3)) (ht : (pc : Int) + off = (tgt : Int))
    (kt : x < y → Y C shp nL tgt L st V) (kf : ¬ x < y → Y C shp nL (pc + 3) L st V) : Y C shp nL pc L (.int y :: .int x :: st) V := by
  obtain ⟨hx, hb, hml, hown, hts, hK, hlk, hR, hA, hk1, hk2⟩ := hC
  intro H locs ls hP hD hS hl
  exact lv_icmp_lt hx hb d ht (fun q => kt q H locs ls hP hD hS hl) (fun q => kf q H locs ls hP hD hS hl)

theorem Y_if_ge (hC : YF C own cc nL rm) {x : Int32} {off : Int} (tgt : Nat) (d : decode cc pc = .ok (.ifCond .ge off, 3)) (ht : (pc : Int) + off = (tgt : Int))
    (kt : 0 ≤ x → Y C shp nL tgt L st V) (kf : ¬ 0 ≤ x → Y C shp nL (pc + 3) L st V) : Y C shp nL pc L (.int x :: st) V := by
  obtain ⟨hx, hb, hml, hown, hts, hK, hlk, hR, hA, hk1, hk2⟩ := hC
  intro H locs ls hP hD hS hl
  exact lv_if_ge hx hb d ht (fun q => kt q H locs ls hP hD hS hl) (fun q => kf q H locs ls hP hD hS hl)

theorem Y_icmp_ge (hC : YF C own cc nL rm) {x y : Int32} {off : Int} (tgt : Nat) (d : decode cc pc = .ok (.if_icmp .ge off, 3)) (ht : (pc : Int) + off = (tgt : Int))
    (kt : y ≤ x → Y C shp nL tgt L st V) (kf : ¬ y ≤ x → Y C shp nL (pc + 3) L st V) : Y C shp nL pc L (.int y :: .int x :: st) V := by
  obtain ⟨hx, hb, hml, hown, hts, hK, hlk, hR, hA, hk1, hk2⟩ := hC
  intro H locs ls hP hD hS hl
  exact lv_icmp_ge hx hb d ht (fun q => kt q H locs ls hP hD hS hl) (fun q => kf q H locs ls hP hD hS hl)

theorem Y_if_gt (hC : YF C own cc nL rm) {x : Int32} {off : Int} (tgt : Nat) (d : decode cc pc = .ok (.ifCond .gt off, 3)) (ht : (pc : Int) + off = (tgt : Int))
    (kt : 0 < x → Y C shp nL tgt L st V) (kf : ¬ 0 < x → Y C shp nL (pc + 3) L st V) : Y C shp nL pc L (.int x :: st) V := by
  obtain ⟨hx, hb, hml, hown, hts, hK, hlk, hR, hA, hk1, hk2⟩ := hC
  intro H locs ls hP hD hS hl
  exact lv_if_gt hx hb d ht (fun q => kt q H locs ls hP hD hS hl) (fun q => kf q H locs ls hP hD hS hl)

theorem Y_icmp_gt (hC : YF C own cc nL rm) {x y : Int32} {off : Int} (tgt : Nat) (d : decode cc pc = .ok (.if_icmp .gt off, 3)) (ht : (pc : Int) + off = (tgt : Int))
    (kt : y < x → Y C shp nL tgt L st V) (kf : ¬ y < x → Y C shp nL (pc + 3) L st V) : Y C shp nL pc L (.int y :: .int x :: st) V := by
  obtain ⟨hx, hb, hml, hown, hts, hK, hlk, hR, hA, hk1, hk2⟩ := hC
  intro H locs ls hP hD hS hl
  exact lv_icmp_gt hx hb d ht (fun q => kt q H locs ls hP hD hS hl) (fun q => kf q H locs ls hP hD hS hl)

theorem Y_if_le (hC : YF C own cc nL rm) {x : Int32} {off : Int} (tgt : Nat) (d : decode cc pc = .ok (.ifCond .le off, 3)) (ht : (pc : Int) + off = (tgt : Int))
    (kt : x ≤ 0 → Y C shp nL tgt L st V) (kf : ¬ x ≤ 0 → Y C shp nL (pc + 3) L st V) : Y C shp nL pc L (.int x :: st) V := by
  obtain ⟨hx, hb, hml, hown, hts, hK, hlk, hR, hA, hk1, hk2⟩ := hC
  intro H locs ls hP hD hS hl
  exact lv_if_le hx hb d ht (fun q => kt q H locs ls hP hD hS hl) (fun q => kf q H locs ls hP hD hS hl)

theorem Y_icmp_le (hC : YF C own cc nL rm) {x y : Int32} {off : Int} (tgt : Nat) (d : decode cc pc = .ok (.if_icmp .le off, 3)) (ht : (pc : Int) + off = (tgt : Int))
    (kt : x ≤ y → Y C shp nL tgt L st V) (kf : ¬ x ≤ y → Y C shp nL (pc + 3) L st V) : Y C shp nL pc L (.int y :: .int x :: st) V := by
  obtain ⟨hx, hb, hml, hown, hts, hK, hlk, hR, hA, hk1, hk2⟩ := hC
  intro H locs ls hP hD hS hl
  exact lv_icmp_le hx hb d ht (fun q => kt q H locs ls hP hD hS hl) (fun q => kf q H locs ls hP hD hS hl)

theorem Y_goto (hC : YF C own cc nL rm) {off : Int} (tgt : Nat) (d : decode cc pc = .ok (.goto off, 3)) (ht : (pc : Int) + off = (tgt : Int))
    (k : Y C shp nL tgt L st V) : Y C shp nL pc L (st) V := by
  obtain ⟨hx, hb, hml, hown, hts, hK, hlk, hR, hA, hk1, hk2⟩ := hC
  intro H locs ls hP hD hS hl
  exact lv_goto hx hb d ht (k H locs ls hP hD hS hl)

theorem Y_tableOut (hC : YF C own cc nL rm) {dflt lo hi : Int} {offs : Array Int} {len : Nat} {x : Int32} (tgt : Nat) (d : decode cc pc = .ok (.tableswitch dflt lo hi offs, len)) (h : x.toInt < lo ∨ hi < x.toInt) (ht : (pc : Int) + dflt = (tgt : Int))
    (k : Y C shp nL tgt L st V) : Y C shp nL pc L (.int x :: st) V := by
  obtain ⟨hx, hb, hml, hown, hts, hK, hlk, hR, hA, hk1, hk2⟩ := hC
  intro H locs ls hP hD hS hl
  exact lv_tableOut hx hb d h ht (k H locs ls hP hD hS hl)

theorem Y_tableIn (hC : YF C own cc nL rm) {dflt lo hi : Int} {offs : Array Int} {len : Nat} {x : Int32} {off : Int} (tgt : Nat) (d : decode cc pc = .ok (.tableswitch dflt lo hi offs, len)) (h1 : ¬ x.toInt < lo) (h2 : ¬ hi < x.toInt) (ho : offs[(x.toInt - lo).toNat]? = some off) (ht : (pc : Int) + off = (tgt : Int))
    (k : Y C shp nL tgt L st V) : Y C shp nL pc L (.int x :: st) V := by
  obtain ⟨hx, hb, hml, hown, hts, hK, hlk, hR, hA, hk1, hk2⟩ := hC
  intro H locs ls hP hD hS hl
  exact lv_tableIn hx hb d h1 h2 ho ht (k H locs ls hP hD hS hl)

theorem Y_lookup (hC : YF C own cc nL rm) {dflt : Int} {ps : Array (Int × Int)} {len : Nat} {x : Int32} {off : Int} (tgt : Nat) (d : decode cc pc = .ok (.lookupswitch dflt ps, len)) (hp : (ps.toList.zip (ps.toList.drop 1)).all (fun (a, next) => a.1 < next.1) = true) (ho : Op.lookupswitch.offset ps.toList dflt x.toInt = off) (ht : (pc : Int) + off = (tgt : Int))
    (k : Y C shp nL tgt L st V) : Y C shp nL pc L (.int x :: st) V := by
  obtain ⟨hx, hb, hml, hown, hts, hK, hlk, hR, hA, hk1, hk2⟩ := hC
  intro H locs ls hP hD hS hl
  exact lv_lookup hx hb d hp ho ht (k H locs ls hP hD hS hl)

/-- a field's link: own's entry idx is the slot j of class ci -/
def FL (own : String) (idx ci j : Nat) : Prop := ∃ (R : String) (T : u_T) (N : Nat), classes[ci]? = some (R, T, N) ∧ j < N ∧ (∀ w ∈ u_ws R T N, w ∈ ALLW) ∧ Cond.fieldLink own idx (T j).1 (T j).2.1 (T j).2.2.1 ∈ ALLW
/-- a class whose fields may be put -/
def FPc (ci : Nat) : Prop := ∃ (R : String) (T : u_T) (N : Nat) (ty : Nat → FieldType), classes[ci]? = some (R, T, N) ∧ (∀ k, k < N → parseFieldDescriptor (T k).2.2.1 = some (ty k)) ∧ (∀ a, a < N → ∀ b, b < N → a ≠ b → (T a).2.1 ≠ (T b).2.1)
def FT (ci j : Nat) (t : FieldType) : Prop := ∃ (R : String) (T : u_T) (N : Nat), classes[ci]? = some (R, T, N) ∧ (T j).2.2.2 = false ∧ parseFieldDescriptor (T j).2.2.1 = some t

theorem Y_getI (hC : YF C own cc nL rm) {idx ci j k : Nat} {fs : List (Option Nat)} (hs : shp[k]? = some (.inl (ci, fs))) (hf : FL own idx ci j) (hj : fs[j]? = some none) (d : decode cc pc = .ok (.getfield idx, 3))
    (kk : Y C shp nL (pc + 3) L (.int (V k j) :: st) V) : Y C shp nL pc L (.ref (C.a k) :: st) V := by
  obtain ⟨hx, hb, hml, hown, hts, hK, hlk, hR, hA, hk1, hk2⟩ := hC
  intro H locs ls hP hD hS hl
  obtain ⟨R, T, N, hc, hN, hin, hlink⟩ := hf
  refine va_get (q0 := k) hx hb hts hin hown hK hP (fs := fvs C.a (V k) 0 fs) ?_ hc j hN (hts _ hlink) (fun _ h => h) (v := .int (V k j)) ?_ d (kk H locs ls hP hD hS hl)
  · show (wsF _ _ _ _ _ _)[k]? = _
    rw [wsF_at, hs]
    simp [cellE]
  · rw [fvs_at, hj]
    simp

theorem Y_getR (hC : YF C own cc nL rm) {idx ci j k r : Nat} {fs : List (Option Nat)} (hs : shp[k]? = some (.inl (ci, fs))) (hf : FL own idx ci j) (hj : fs[j]? = some (some r)) (d : decode cc pc = .ok (.getfield idx, 3))
    (kk : Y C shp nL (pc + 3) L (.ref (C.a r) :: st) V) : Y C shp nL pc L (.ref (C.a k) :: st) V := by
  obtain ⟨hx, hb, hml, hown, hts, hK, hlk, hR, hA, hk1, hk2⟩ := hC
  intro H locs ls hP hD hS hl
  obtain ⟨R, T, N, hc, hN, hin, hlink⟩ := hf
  refine va_get (q0 := k) hx hb hts hin hown hK hP (fs := fvs C.a (V k) 0 fs) ?_ hc j hN (hts _ hlink) (fun _ h => h) (v := .ref (C.a r)) ?_ d (kk H locs ls hP hD hS hl)
  · show (wsF _ _ _ _ _ _)[k]? = _
    rw [wsF_at, hs]
    simp [cellE]
  · rw [fvs_at, hj]
    rfl

theorem Y_put (hC : YF C own cc nL rm) {idx ci j k : Nat} {fs : List (Option Nat)} {t : FieldType} {x : Int32} {V1 : Sto} (hs : shp[k]? = some (.inl (ci, fs))) (hf : FL own idx ci j) (hj : fs[j]? = some none) (h1 : k ≠ 1000) (hp : FPc ci) (ht : FT ci j t) (hn : narrow t (.int x) = .int x) (hfit : fits t (.int x) = true) (hw : YWr C shp) (hV : sw V k j x = V1) (d : decode cc pc = .ok (.putfield idx, 3))
    (kk : Y C shp nL (pc + 3) L st V1) : Y C shp nL pc L (.int x :: .ref (C.a k) :: st) V := by
  obtain ⟨hx, hb, hml, hown, hts, hK, hlk, hR, hA, hk1, hk2⟩ := hC
  intro H locs ls hP hD hS hl
  obtain ⟨R, T, N, hc, hN, hin, hlink⟩ := hf
  obtain ⟨R2, T2, N2, ty, hc2, hty, hnm⟩ := hp
  cases hc.symm.trans hc2
  obtain ⟨R3, T3, N3, hc3, hfin, hd⟩ := ht
  cases hc.symm.trans hc3
  subst hV
  refine va_put (q0 := k) hx hb hts hin ty hty hnm hown hK hP (wsF_A hw hD) hS (fs := fvs C.a (V k) 0 fs) ?_ hc j hN (hts _ hlink) (fun _ h => h) hfin hd hn hfit ?_ d (fun H1 locs1 hP1 hD1 hS1 => ?_)
  · show (wsF _ _ _ _ _ _)[k]? = _
    rw [wsF_at, hs]
    simp [cellE]
  · rw [fvs_len]
    exact (List.getElem?_eq_some_iff.mp hj).1
  · rw [wsF_put hs hj h1] at hP1 hD1
    exact kk H1 locs1 ls hP1 (hD1.weaken (fun _ _ _ _ => trivial)) hS1 hl

theorem Y_iald (hC : YF C own cc nL rm) {k n : Nat} {o : Option Nat} {i : Int32} (hs : shp[k]? = some (.inr (false, o))) (hn : alenOf V k o = n) (hi : ib i n = true) (d : decode cc pc = .ok (.iaload, 1))
    (kk : Y C shp nL (pc + 1) L (.int (V k i.toNatClampNeg) :: st) V) : Y C shp nL pc L (.int i :: .ref (C.a k) :: st) V := by
  obtain ⟨hx, hb, hml, hown, hts, hK, hlk, hR, hA, hk1, hk2⟩ := hC
  intro H locs ls hP hD hS hl
  refine va_iald hx hb hK hP k 0 (f := V k) (n := n) ?_ rfl (ib_in hi) d (kk H locs ls hP hD hS hl)
  show (wsF _ _ _ _ _ _)[k]? = _
  rw [wsF_at, hs]
  simp [cellE, arrC, hn]

theorem Y_zald (hC : YF C own cc nL rm) {k n : Nat} {o : Option Nat} {i : Int32} (hs : shp[k]? = some (.inr (true, o))) (hn : alenOf V k o = n) (hi : ib i n = true) (d : decode cc pc = .ok (.baload, 1))
    (kk : Y C shp nL (pc + 1) L (.int (V k i.toNatClampNeg) :: st) V) : Y C shp nL pc L (.int i :: .ref (C.a k) :: st) V := by
  obtain ⟨hx, hb, hml, hown, hts, hK, hlk, hR, hA, hk1, hk2⟩ := hC
  intro H locs ls hP hD hS hl
  refine va_zald hx hb hK hP k 1 (f := V k) (n := n) ?_ rfl (ib_in hi) d (kk H locs ls hP hD hS hl)
  show (wsF _ _ _ _ _ _)[k]? = _
  rw [wsF_at, hs]
  simp [cellE, arrC, hn]

theorem Y_iast (hC : YF C own cc nL rm) {k n : Nat} {o : Option Nat} {i x x' : Int32} {V1 : Sto} (hs : shp[k]? = some (.inr (false, o))) (h1 : k ≠ 1000) (hn : alenOf V k o = n) (hi : ib i n = true) (hw : YWr C shp) (hx' : x = x') (hV : sw V k i.toNatClampNeg x' = V1) (d : decode cc pc = .ok (.iastore, 1))
    (kk : Y C shp nL (pc + 1) L st V1) : Y C shp nL pc L (.int x :: .int i :: .ref (C.a k) :: st) V := by
  obtain ⟨hx, hb, hml, hown, hts, hK, hlk, hR, hA, hk1, hk2⟩ := hC
  intro H locs ls hP hD hS hl
  subst hV
  subst hx'
  subst hn
  refine va_iast hx hb hK hP (wsF_A hw hD) hS k 0 (f := V k) (n := alenOf V k o) ?_ rfl (ib_in hi) d (fun H1 locs1 hP1 hD1 hS1 => ?_)
  · show (wsF _ _ _ _ _ _)[k]? = _
    rw [wsF_at, hs]
    simp [cellE, arrC]
  · have e := wsF_ast (cI := C.cI) (cZ := C.cZ) (a := C.a) (V := V) (i := i.toNatClampNeg) (x := x) hs h1
    simp only [arrC] at e
    rw [e] at hP1 hD1
    exact kk H1 locs1 ls hP1 (hD1.weaken (fun _ _ _ _ => trivial)) hS1 hl

theorem Y_zast (hC : YF C own cc nL rm) {k n : Nat} {o : Option Nat} {i x x' : Int32} {V1 : Sto} (hs : shp[k]? = some (.inr (true, o))) (h1 : k ≠ 1000) (hn : alenOf V k o = n) (hi : ib i n = true) (hw : YWr C shp) (hx' : (vp_nar .boolean x) = x') (hV : sw V k i.toNatClampNeg x' = V1) (d : decode cc pc = .ok (.bastore, 1))
    (kk : Y C shp nL (pc + 1) L st V1) : Y C shp nL pc L (.int x :: .int i :: .ref (C.a k) :: st) V := by
  obtain ⟨hx, hb, hml, hown, hts, hK, hlk, hR, hA, hk1, hk2⟩ := hC
  intro H locs ls hP hD hS hl
  subst hV
  subst hx'
  subst hn
  refine va_zast hx hb hK hP (wsF_A hw hD) hS k 1 (f := V k) (n := alenOf V k o) ?_ rfl (ib_in hi) d (fun H1 locs1 hP1 hD1 hS1 => ?_)
  · show (wsF _ _ _ _ _ _)[k]? = _
    rw [wsF_at, hs]
    simp [cellE, arrC]
  · have e := wsF_ast (cI := C.cI) (cZ := C.cZ) (a := C.a) (V := V) (i := i.toNatClampNeg) (x := (vp_nar .boolean x)) hs h1
    simp only [arrC] at e
    rw [e] at hP1 hD1
    exact kk H1 locs1 ls hP1 (hD1.weaken (fun _ _ _ _ => trivial)) hS1 hl

theorem Y_alen (hC : YF C own cc nL rm) {k n : Nat} {o : Option Nat} (hs : shp[k]? = some (.inr (false, o))) (hn : alenOf V k o = n) (d : decode cc pc = .ok (.arraylength, 1))
    (kk : Y C shp nL (pc + 1) L (.int (nI n) :: st) V) : Y C shp nL pc L (.ref (C.a k) :: st) V := by
  obtain ⟨hx, hb, hml, hown, hts, hK, hlk, hR, hA, hk1, hk2⟩ := hC
  intro H locs ls hP hD hS hl
  subst hn
  refine va_alen hx hb hK hP k 0 (cA := C.cI) (x := (alenOf V k o, .inl (V k))) ?_ rfl rfl d (kk H locs ls hP hD hS hl)
  show (wsF _ _ _ _ _ _)[k]? = _
  rw [wsF_at, hs]
  simp [cellE, arrC]

theorem Y_mmax (hC : YF C own cc nL rm) {idx : Nat} {x y : Int32} (hl' : Cond.methodLink own idx Lib.Math.max.name ∈ ALLW) (hroom : 1 ≤ rm.frames ∧ 32 ≤ rm.locals) (hcat : (st.map fun v => v.category).sum ≤ 8) (d : decode cc pc = .ok (.invokestatic idx, 3))
    (k : Y C shp nL (pc + 3) L (.int (if x < y then y else x) :: st) V) : Y C shp nL pc L (.int y :: .int x :: st) V := by
  obtain ⟨hx, hb, hml, hown, hts, hK, hlk, hR, hA, hk1, hk2⟩ := hC
  intro H locs ls hP hD hS hl
  exact va_mmax hx hb (hml.trans hl.1.symm) hown (hts _ hl') (hts _ mathmaxS) (hts _ mathI) (hts _ mathmaxC) (by rw [hR]; exact hroom.1) (by rw [hR]; omega) hk1 hk2 d (k H locs ls hP hD hS hl)

theorem Y_mmin (hC : YF C own cc nL rm) {idx : Nat} {x y : Int32} (hl' : Cond.methodLink own idx Lib.Math.min.name ∈ ALLW) (hroom : 1 ≤ rm.frames ∧ 32 ≤ rm.locals) (hcat : (st.map fun v => v.category).sum ≤ 8) (d : decode cc pc = .ok (.invokestatic idx, 3))
    (k : Y C shp nL (pc + 3) L (.int (if y < x then y else x) :: st) V) : Y C shp nL pc L (.int y :: .int x :: st) V := by
  obtain ⟨hx, hb, hml, hown, hts, hK, hlk, hR, hA, hk1, hk2⟩ := hC
  intro H locs ls hP hD hS hl
  exact va_mmin hx hb (hml.trans hl.1.symm) hown (hts _ hl') (hts _ mathminS) (hts _ mathI) (hts _ mathminC) (by rw [hR]; exact hroom.1) (by rw [hR]; omega) hk1 hk2 d (k H locs ls hP hD hS hl)

theorem Y_copy (hC : YF C own cc nL rm) {idx k0 k1 n0 n1 : Nat} {o0 o1 : Option Nat} {sp dp n : Int32} {V1 : Sto} (hs0 : shp[k0]? = some (.inr (false, o0))) (hs1 : shp[k1]? = some (.inr (false, o1))) (h1 : k1 ≠ 1000) (hn0 : alenOf V k0 o0 = n0) (hn1 : alenOf V k1 o1 = n1) (hcp : cpb sp dp n n0 n1 = true) (hw : YWr C shp) (hV : cpw V k0 k1 sp dp n = V1) (hl' : Cond.methodLink own idx arraycopyName ∈ ALLW) (hroom : 1 ≤ rm.frames ∧ 8 + (nativeFrameWords "java/lang/System" "arraycopy" 5 + 11) ≤ rm.locals) (hcat : (st.map fun v => v.category).sum ≤ 8) (d : decode cc pc = .ok (.invokestatic idx, 3))
    (kk : Y C shp nL (pc + 3) L st V1) : Y C shp nL pc L (.int n :: .int dp :: .ref (C.a k1) :: .int sp :: .ref (C.a k0) :: st) V := by
  obtain ⟨hx, hb, hml, hown, hts, hK, hlk, hR, hA, hk1, hk2⟩ := hC
  intro H locs ls hP hD hS hl
  obtain ⟨g1, g2, g3, g4, g5⟩ := cpb_s hcp
  subst hV
  subst hn0
  subst hn1
  refine va_copyi hx hb (hml.trans hl.1.symm) hown (hts _ hl') (hts _ sysN) (hts _ sysS) (hts _ sysI) hK hP (wsF_A hw hD) hS k0 k1 0 0 (f := V k0) (g := V k1) (n0 := alenOf V k0 o0) (n1 := alenOf V k1 o1) ?_ ?_ rfl rfl rfl g1 g2 g3 g4 g5 (fun _ _ => rfl) (by rw [hR]; exact hroom.1) (by rw [hR]; omega) d (fun H1 locs1 hP1 hD1 hS1 => ?_)
  · show (wsF _ _ _ _ _ _)[k0]? = _
    rw [wsF_at, hs0]
    simp [cellE, arrC]
  · show (wsF _ _ _ _ _ _)[k1]? = _
    rw [wsF_at, hs1]
    simp [cellE, arrC]
  · have e := wsF_set (cI := C.cI) (cZ := C.cZ) (a := C.a) (V := V) (f := va_cpy (V k0) (V k1) sp.toNatClampNeg dp.toNatClampNeg n.toNatClampNeg) (e := .inl (C.cI, alenOf V k1 o1, .inl (va_cpy (V k0) (V k1) sp.toNatClampNeg dp.toNatClampNeg n.toNatClampNeg))) hs1 h1 (by
      have e2 : va_up V k1 (va_cpy (V k0) (V k1) sp.toNatClampNeg dp.toNatClampNeg n.toNatClampNeg) 1000 = V 1000 := by simp [va_up, Ne.symm h1]
      have e1 : va_up V k1 (va_cpy (V k0) (V k1) sp.toNatClampNeg dp.toNatClampNeg n.toNatClampNeg) k1 = va_cpy (V k0) (V k1) sp.toNatClampNeg dp.toNatClampNeg n.toNatClampNeg := by simp [va_up]
      cases o1 <;> simp [cellE, arrC, alenOf, e1, e2])
    rw [e] at hP1 hD1
    exact kk H1 locs1 ls hP1 (hD1.weaken (fun _ _ _ _ => trivial)) hS1 hl

end YR
