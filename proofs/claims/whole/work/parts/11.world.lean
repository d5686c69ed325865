/-! The world of a fixed graph: its shape, its cells, and what a store or a put does to them. -/
abbrev Shp : Type := (Nat × List (Option Nat)) ⊕ (Bool × Option Nat)
/-- a row's length: fixed, or kept at the ghost cell 1000 -/
def alenOf (V : Sto) (k : Nat) (o : Option Nat) : Nat := match o with
  | some n => n
  | none => (V 1000 k).toNatClampNeg
def fvs (a : Nat → Nat) (f : Nat → Int32) : Nat → List (Option Nat) → List Value
  | _, [] => []
  | j, none :: fs => .int (f j) :: fvs a f (j + 1) fs
  | j, some r :: fs => .ref (a r) :: fvs a f (j + 1) fs
def arrC (cI cZ : ClassId) (b : Bool) : ClassId := match b with
  | true => cZ
  | false => cI
def cellE (cI cZ : ClassId) (a : Nat → Nat) (V : Sto) (k : Nat) (sh : Shp) : va_E := match sh with
  | .inl (ci, fs) => .inr (ci, fvs a (V k) 0 fs)
  | .inr (b, o) => .inl (arrC cI cZ b, alenOf V k o, .inl (V k))
def wsF (cI cZ : ClassId) (a : Nat → Nat) (V : Sto) : Nat → List Shp → va_W
  | _, [] => []
  | k, sh :: l => (a k, cellE cI cZ a V k sh) :: wsF cI cZ a V (k + 1) l
theorem wsF_at (cI cZ : ClassId) (a : Nat → Nat) (V : Sto) : ∀ (l : List Shp) (b k : Nat), (wsF cI cZ a V b l)[k]? = (l[k]?).map (fun sh => (a (b + k), cellE cI cZ a V (b + k) sh))
  | [], b, k => by simp [wsF]
  | sh :: l, b, 0 => by simp [wsF]
  | sh :: l, b, k + 1 => by
    rw [wsF, List.getElem?_cons_succ, List.getElem?_cons_succ, wsF_at cI cZ a V l (b + 1) k]
    rw [show b + 1 + k = b + (k + 1) by omega]
theorem wsF_len (cI cZ : ClassId) (a : Nat → Nat) (V : Sto) : ∀ (l : List Shp) (b : Nat), (wsF cI cZ a V b l).length = l.length
  | [], b => rfl
  | sh :: l, b => by rw [wsF, List.length_cons, List.length_cons, wsF_len cI cZ a V l (b + 1)]
theorem fvs_at (a : Nat → Nat) (f : Nat → Int32) : ∀ (fs : List (Option Nat)) (b j : Nat), (fvs a f b fs)[j]? = (fs[j]?).map (fun o => match o with | none => Value.int (f (b + j)) | some r => Value.ref (a r))
  | [], b, j => by simp [fvs]
  | none :: fs, b, 0 => by simp [fvs]
  | some r :: fs, b, 0 => by simp [fvs]
  | none :: fs, b, j + 1 => by
    rw [fvs, List.getElem?_cons_succ, List.getElem?_cons_succ, fvs_at a f fs (b + 1) j]
    rw [show b + 1 + j = b + (j + 1) by omega]
  | some r :: fs, b, j + 1 => by
    rw [fvs, List.getElem?_cons_succ, List.getElem?_cons_succ, fvs_at a f fs (b + 1) j]
    rw [show b + 1 + j = b + (j + 1) by omega]
theorem fvs_len (a : Nat → Nat) (f : Nat → Int32) : ∀ (fs : List (Option Nat)) (b : Nat), (fvs a f b fs).length = fs.length
  | [], b => rfl
  | none :: fs, b => by rw [fvs, List.length_cons, List.length_cons, fvs_len a f fs (b + 1)]
  | some r :: fs, b => by rw [fvs, List.length_cons, List.length_cons, fvs_len a f fs (b + 1)]
/-- a field of ints is put -/
theorem fvs_set (a : Nat → Nat) (f : Nat → Int32) (fs : List (Option Nat)) (j : Nat) (x : Int32) (h : fs[j]? = some none) : (fvs a f 0 fs).set j (.int x) = fvs a (upd f j x) 0 fs := by
  apply List.ext_getElem?
  intro i
  have hl : j < (fvs a f 0 fs).length := by rw [fvs_len]; exact (List.getElem?_eq_some_iff.mp h).1
  by_cases hi : i = j
  · subst hi
    rw [List.getElem?_set_self hl, fvs_at, h]
    simp [upd]
  · rw [List.getElem?_set_ne (Ne.symm hi), fvs_at, fvs_at]
    cases hq : fs[i]? with
    | none => rfl
    | some o => cases o <;> simp [upd, hi]
/-- the world behind a change of one cell's row k -/
theorem wsF_set {cI cZ : ClassId} {a : Nat → Nat} {V : Sto} {shp : List Shp} {k : Nat} {sh : Shp} {f : Nat → Int32} (hk : shp[k]? = some sh) (h1000 : k ≠ 1000) {e : va_E} (he : e = cellE cI cZ a (va_up V k f) k sh) :
    (wsF cI cZ a V 0 shp).set k (a k, e) = wsF cI cZ a (va_up V k f) 0 shp := by
  apply List.ext_getElem?
  intro i
  have hl : k < (wsF cI cZ a V 0 shp).length := by rw [wsF_len]; exact (List.getElem?_eq_some_iff.mp hk).1
  by_cases hi : i = k
  · subst hi
    rw [List.getElem?_set_self hl, wsF_at, hk, he]
    simp
  · rw [List.getElem?_set_ne (Ne.symm hi), wsF_at, wsF_at]
    cases hq : shp[i]? with
    | none => rfl
    | some o =>
      have e1 : va_up V k f i = V i := by simp [va_up, hi]
      have e2 : va_up V k f 1000 = V 1000 := by simp [va_up, Ne.symm h1000]
      rcases o with ⟨ci, fs⟩ | ⟨b, o⟩
      · simp [cellE, e1]
      · cases o <;> simp [cellE, alenOf, e1, e2]
theorem sw_up (V : Sto) (k i : Nat) (x : Int32) : sw V k i x = va_up V k (upd (V k) i x) := by
  funext q
  by_cases h : q = k <;> simp [sw, va_up, h]
theorem wsF_put {cI cZ : ClassId} {a : Nat → Nat} {V : Sto} {shp : List Shp} {k j ci : Nat} {fs : List (Option Nat)} {x : Int32} (hk : shp[k]? = some (.inl (ci, fs))) (hj : fs[j]? = some none) (h1000 : k ≠ 1000) :
    (wsF cI cZ a V 0 shp).set k (a k, .inr (ci, (fvs a (V k) 0 fs).set j (.int x))) = wsF cI cZ a (sw V k j x) 0 shp := by
  rw [sw_up]
  refine wsF_set hk h1000 ?_
  rw [fvs_set a (V k) fs j x hj]
  simp [cellE, va_up]
theorem wsF_ast {cI cZ : ClassId} {a : Nat → Nat} {V : Sto} {shp : List Shp} {k i : Nat} {b : Bool} {o : Option Nat} {x : Int32} (hk : shp[k]? = some (.inr (b, o))) (h1000 : k ≠ 1000) :
    (wsF cI cZ a V 0 shp).set k (a k, .inl (arrC cI cZ b, alenOf V k o, .inl (upd (V k) i x))) = wsF cI cZ a (sw V k i x) 0 shp := by
  rw [sw_up]
  refine wsF_set hk h1000 ?_
  have e2 : va_up V k (upd (V k) i x) 1000 = V 1000 := by simp [va_up, Ne.symm h1000]
  have e1 : va_up V k (upd (V k) i x) k = upd (V k) i x := by simp [va_up]
  cases o <;> simp [cellE, alenOf, e1, e2]
/-- what a method may change: the cells of its graph (if it writes at all), and all that come -/
def RA (w : Bool) (a : Nat → Nat) (n sz : Nat) : Nat → Prop := fun q => (w = true ∧ ∃ k, k < n ∧ q = a k) ∨ sz ≤ q
/-- a row copied into another -/
def cpw (V : Sto) (k0 k1 : Nat) (sp dp n : Int32) : Sto := va_up V k1 (va_cpy (V k0) (V k1) sp.toNatClampNeg dp.toNatClampNeg n.toNatClampNeg)
def cpb (sp dp n : Int32) (n0 n1 : Nat) : Bool := !(decide (sp < 0)) && (!(decide (dp < 0)) && (!(decide (n < 0)) && (decide (sp.toNatClampNeg + n.toNatClampNeg ≤ n0) && decide (dp.toNatClampNeg + n.toNatClampNeg ≤ n1))))
theorem cpb_s {sp dp n : Int32} {n0 n1 : Nat} (h : cpb sp dp n n0 n1 = true) : ¬ sp < 0 ∧ ¬ dp < 0 ∧ ¬ n < 0 ∧ sp.toNatClampNeg + n.toNatClampNeg ≤ n0 ∧ dp.toNatClampNeg + n.toNatClampNeg ≤ n1 := by
  unfold cpb at h
  simpa using h
theorem bb_nar {x : Int32} (h : bb x = true) : narrow .boolean (.int x) = .int x := by
  unfold bb at h
  rw [Bool.or_eq_true, decide_eq_true_eq, decide_eq_true_eq] at h
  rcases h with rfl | rfl <;> rfl
theorem bb_fit {x : Int32} (h : bb x = true) : fits .boolean (.int x) = true := by
  unfold bb at h
  rw [Bool.or_eq_true, decide_eq_true_eq, decide_eq_true_eq] at h
  rcases h with rfl | rfl <;> rfl
theorem i32_ne {x y : Int32} (h : ¬ x = y) : x.toInt ≠ y.toInt := fun e => h (Int32.toInt_inj.mp e)
theorem i32lit_0 : (0 : Int32).toInt = 0 := by decide
theorem i32lit_1 : (1 : Int32).toInt = 1 := by decide
theorem i32lit_2 : (2 : Int32).toInt = 2 := by decide
theorem i32lit_3 : (3 : Int32).toInt = 3 := by decide
theorem i32lit_4 : (4 : Int32).toInt = 4 := by decide
theorem i32lit_5 : (5 : Int32).toInt = 5 := by decide
theorem i32lit_6 : (6 : Int32).toInt = 6 := by decide
theorem i32lit_7 : (7 : Int32).toInt = 7 := by decide
