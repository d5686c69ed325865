/-! The one row that grows: Arrays.copyOf, and the put of its answer. -/
abbrev b_copyOf : ByteArray := prog_32_method_123_code
def y_copyOf : MethodName := ⟨"java/util/Arrays", "copyOf", "([II)[I"⟩
theorem d_copyOf_0 : decode b_copyOf 0 = .ok (.iload_n 1, 1) := by decide +kernel
theorem d_copyOf_1 : decode b_copyOf 1 = .ok (.aload_n 0, 1) := by decide +kernel
theorem d_copyOf_2 : decode b_copyOf 2 = .ok (.arraylength, 1) := by decide +kernel
theorem d_copyOf_3 : decode b_copyOf 3 = .ok (.if_icmp .ne 11, 3) := by decide +kernel
theorem d_copyOf_14 : decode b_copyOf 14 = .ok (.iload_n 1, 1) := by decide +kernel
theorem d_copyOf_15 : decode b_copyOf 15 = .ok (.newarray .int, 2) := by decide +kernel
theorem d_copyOf_17 : decode b_copyOf 17 = .ok (.astore_n 2, 1) := by decide +kernel
theorem d_copyOf_18 : decode b_copyOf 18 = .ok (.aload_n 0, 1) := by decide +kernel
theorem d_copyOf_19 : decode b_copyOf 19 = .ok (.iconst 0, 1) := by decide +kernel
theorem d_copyOf_20 : decode b_copyOf 20 = .ok (.aload_n 2, 1) := by decide +kernel
theorem d_copyOf_21 : decode b_copyOf 21 = .ok (.iconst 0, 1) := by decide +kernel
theorem d_copyOf_22 : decode b_copyOf 22 = .ok (.aload_n 0, 1) := by decide +kernel
theorem d_copyOf_23 : decode b_copyOf 23 = .ok (.arraylength, 1) := by decide +kernel
theorem d_copyOf_24 : decode b_copyOf 24 = .ok (.iload_n 1, 1) := by decide +kernel
theorem d_copyOf_25 : decode b_copyOf 25 = .ok (.invokestatic 304, 3) := by decide +kernel
theorem d_copyOf_28 : decode b_copyOf 28 = .ok (.invokestatic 150, 3) := by decide +kernel
theorem d_copyOf_31 : decode b_copyOf 31 = .ok (.aload_n 2, 1) := by decide +kernel
theorem d_copyOf_32 : decode b_copyOf 32 = .ok (.areturn, 1) := by decide +kernel
theorem ml_Arrays_304 : Cond.methodLink "java/util/Arrays" 304 Lib.Math.min.name ∈ ALLW := (mw 764 (by decide +kernel))
theorem ml_Arrays_150 : Cond.methodLink "java/util/Arrays" 150 arraycopyName ∈ ALLW := (mw 765 (by decide +kernel))
theorem arrI : Cond.arrayClass .int ∈ ALLW := (mw 146 (by decide +kernel))
theorem arrZ : Cond.arrayClass .boolean ∈ ALLW := (mw 147 (by decide +kernel))
theorem W_mono {p : Program} {l : Launch} {e : Env} {R : Room} {s : State} {m : MethodId} {args : Array Value} {below : List Frame} {meth : Method} {c : Code} {H : Heap} {locs : List Loc} {cells slots : Nat} {Q1 Q2 : State → Prop} {g : JFrame} (h : ∀ t, Q1 t → Q2 t) (k : W p l e R s m args below meth c H locs cells slots Q1 g) : W p l e R s m args below meth c H locs cells slots Q2 g := fun T hT X => by
  obtain ⟨t, a, b⟩ := k T hT X
  exact ⟨t, a, h t b⟩
abbrev rm_copyOf (N : Nat) : Room := { frames := 1, cells := 1, slots := N, locals := 64 }
set_option maxHeartbeats 4000000 in
set_option maxRecDepth 100000 in
theorem c_copyOf (l : Launch) (D : va_G) (cI cZ : ClassId) (aw len : Nat) (f : Nat → Int32) (n : Int32) (N : Nat) (hn : n = nI N) (hNb : N ≤ 100000) (hlen : len < N) (sz : Nat) :
    Met l y_copyOf (Cond.code y_copyOf b_copyOf 3 (some (.array .int)) :: ALLW) (rm_copyOf N) (va_Pc [.ref aw, .int n] (fun U => U.heap.size = sz ∧ va_P D classes [(aw, .inl (cI, len, .inl f))] U.heap ∧ va_K D classes (tysOf cI cZ) U ∧ va_D (fun _ => True) [(aw, .inl (cI, len, .inl f))]))
      (va_Qr (fun (_ : Unit) => True) (fun _ q t => sz ≤ q ∧ va_P D classes [(aw, .inl (cI, len, .inl f)), (q, .inl (cI, N, .inl (va_cpy f (fun _ => 0) 0 0 len)))] t.heap) (fun q => q = aw ∨ sz ≤ q)) 1 N (fun q => q = aw ∨ sz ≤ q) := by
  refine Met.ofW (cc := b_copyOf) (maxL := 3) (ret := some (.array .int)) (by decide) rfl ?_
  intro p e s m args below meth c s₁ B hml hv
  obtain ⟨rfl, hsz, hP, hK, hD0⟩ := hv
  have hx := B.exec
  have hb := B.bytes
  have hr := B.returns
  have hts0 := atoms_spec (ws := Cond.code y_copyOf b_copyOf 3 (some (.array .int)) :: ALLW) B.pre
  have hts : ∀ w ∈ ALLW, w.before ([.ref aw, .int n] : List Value).toArray s = true := fun w hw => hts0 w (List.mem_cons_of_mem _ hw)
  have hown : s.vm.findClass "java/util/Arrays" = some m.cls := findClass_of_methodNamed B.named
  have hlocks := B.notSynchronized
  subst hsz
  have hA : ∀ q : Nat, s.heap.size ≤ q → (fun q => q = aw ∨ s.heap.size ≤ q) q := fun q h => Or.inr h
  have hD : va_D (fun q => q = aw ∨ s.heap.size ≤ q) [(aw, .inl (cI, len, .inl f))] := hD0.weaken (fun k q hk _ => by
    cases k with
    | zero => cases hk; exact Or.inl rfl
    | succ k => cases hk)
  have hS : va_S (fun q => q = aw ∨ s.heap.size ≤ q) s.heap s.heap [] := va_S.rf
  have hl := lv_entry ([.ref aw, .int n]) (n := 3) (Nat.le_of_ble_eq_true rfl)
  rw [lg_entry_eq]
  generalize (lg_sl ([.ref aw, .int n]) ++ List.replicate (3 - (lg_sl ([.ref aw, .int n])).length) Slot.unset).toArray = ls at hl ⊢
  have hl : lv_has ls 3 [(0, .ref aw), (1, .int n)] := hl
  have hNlt : N < 2 ^ 31 := by omega
  refine lv_iload_n hx hb d_copyOf_0 rfl (lv_at hl 1 rfl) ?_
  refine lv_aload_n hx hb d_copyOf_1 rfl (lv_at hl 0 rfl) ?_
  refine va_alen hx hb hK hP 0 0 rfl rfl (v := nI len) rfl d_copyOf_2 ?_
  refine lv_icmp_ne (tgt := 14) hx hb d_copyOf_3 (by decide) (fun _ => ?_) (fun q => absurd q (by rw [hn]; intro e; rw [nI_eq hNlt (by omega)] at e; omega))
  refine lv_iload_n hx hb d_copyOf_14 rfl (lv_at hl 1 rfl) ?_
  refine va_newa (atype := .int) (ty := .int) (a0 := (N, .inl (fun _ => 0))) (N' := N) hx hb (hts _ arrI) rfl hK hP hD hS hA (fun cA => rfl) (by rw [hn]; exact nI_pos hNlt) (by rw [hn]; exact nI_clamp hNlt) (by show N * 4 ≤ _; omega) (by show 0 + 1 ≤ 1; omega) (by show 0 + N ≤ N; omega) d_copyOf_15 (fun q cA H hK hP hD hS => ?_)
  have hcA : cI = cA := by
    have h1 := (hK.2 0 _ rfl).2
    have h2 := (hK.2 2 (cA, .int) rfl).2
    exact Option.some.inj ((show s.vm.findClass ("[" ++ FieldType.int.toString) = some cI from h1).symm.trans h2)
  subst hcA
  have hP : va_P D classes [(aw, .inl (cI, len, .inl f)), (q, .inl (cI, N, .inl (fun _ => 0)))] H := hP
  have hD : va_D (fun q => q = aw ∨ s.heap.size ≤ q) [(aw, .inl (cI, len, .inl f)), (q, .inl (cI, N, .inl (fun _ => 0)))] := hD
  have hqn : s.heap.size ≤ q := by
    rcases hD.2 1 _ rfl with h | h
    · have := hD.1 1 0 _ _ rfl rfl h
      omega
    · exact h
  refine lv_astore_n (lv' := [(2, .ref q), (0, .ref aw), (1, .int n)]) hx hb d_copyOf_17 rfl hl (by decide) rfl (fun ls hl => ?_)
  refine lv_aload_n hx hb d_copyOf_18 rfl (lv_at hl 1 rfl) ?_
  refine lv_iconst (v := 0) hx hb d_copyOf_19 (by decide) ?_
  refine lv_aload_n hx hb d_copyOf_20 rfl (lv_at hl 0 rfl) ?_
  refine lv_iconst (v := 0) hx hb d_copyOf_21 (by decide) ?_
  refine lv_aload_n hx hb d_copyOf_22 rfl (lv_at hl 1 rfl) ?_
  refine va_alen hx hb hK hP 0 0 rfl rfl (v := nI len) rfl d_copyOf_23 ?_
  refine lv_iload_n hx hb d_copyOf_24 rfl (lv_at hl 2 rfl) ?_
  refine va_mmin hx hb (hml.trans hl.1.symm) hown (hts _ ml_Arrays_304) (hts _ mathminS) (hts _ mathI) (hts _ mathminC) (by show 1 ≤ 1; omega) (Nat.le_of_ble_eq_true rfl) (by show 0 + 1 ≤ 1; omega) (by show 0 + N ≤ N; omega) d_copyOf_25 ?_
  have hm : (if n < nI len then n else nI len) = nI len := if_neg (by rw [hn]; exact nI_nlt (by omega) hNlt)
  rw [hm]
  have hl31 : len < 2 ^ 31 := by omega
  refine va_copyi hx hb (hml.trans hl.1.symm) hown (hts _ ml_Arrays_150) (hts _ sysN) (hts _ sysS) (hts _ sysI) hK hP hD hS 0 1 0 0 rfl rfl rfl rfl rfl (by decide) (by decide) (nI_pos hl31) (by rw [nI_clamp hl31]; show 0 + len ≤ len; omega) (by rw [nI_clamp hl31]; show 0 + len ≤ N; omega) (fun _ _ => rfl) (by show 1 ≤ 1; omega) (by show _ ≤ 64; decide) d_copyOf_28 (fun H locs hP hD hS => ?_)
  have hP : va_P D classes [(aw, .inl (cI, len, .inl f)), (q, .inl (cI, N, .inl (va_cpy f (fun _ => 0) 0 0 (nI len).toNatClampNeg)))] H := hP
  rw [nI_clamp hl31] at hP
  refine lv_aload_n hx hb d_copyOf_31 rfl (lv_at hl 0 rfl) ?_
  refine W.widen (k := 1) (n := N) (by omega) (by omega) ?_
  exact W.aret hx hb hr (Or.inr ⟨_, rfl⟩) (Or.inr ⟨_, rfl⟩) (fun t ht hW => ⟨⟨(), q, rfl, trivial, hqn, by rw [ht]; exact hP⟩, hS.F ht⟩) hS.2.2 d_copyOf_32
theorem P_one {D : va_G} {cl : List vw_C} {a : Nat} {e : va_E} {H : Heap} (h : va_at D cl (a, e) H) : va_P D cl [(a, e)] H := fun k q hk => by
  cases k with
  | zero => cases hk; exact h
  | succ k => cases hk
theorem D_one {A : Nat → Prop} {a : Nat} {e : va_E} (h : A a) : va_D A [(a, e)] := by
  refine ⟨fun i j p q hi hj _ => ?_, fun k q hk => ?_⟩
  · cases i with
    | zero =>
      cases j with
      | zero => rfl
      | succ j => cases hj
    | succ i => cases hi
  · cases k with
    | zero => cases hk; exact h
    | succ k => cases hk
/-- behind a growth of the row 14 to N places -/
def grow (V : Sto) (N : Nat) : Sto := fun q => if q = 14 then va_cpy (V 14) (fun _ => 0) 0 0 (V 1000 14).toNatClampNeg else if q = 1000 then upd (V 1000) 14 (nI N) else V q
def YC.grown (C : YC) (q N : Nat) : YC := (C.1, C.2.1, C.2.2.1, (va_up C.a 14 q, C.A), (C.k + 1, C.n + N), C.Q)
/-- no object but the second refers to the row 14 -/
def noref (sh : Shp) : Bool := match sh with
  | .inl (_, fs) => fs.all (fun o => !(o == some 14))
  | .inr (_, o) => o.isSome
theorem fvs_noref (a : Nat → Nat) (q : Nat) (f : Nat → Int32) : ∀ (fs : List (Option Nat)) (j : Nat), fs.all (fun o => !(o == some 14)) = true → fvs (va_up a 14 q) f j fs = fvs a f j fs
  | [], j, _ => rfl
  | none :: fs, j, h => by
    rw [List.all_cons, Bool.and_eq_true] at h
    rw [fvs, fvs, fvs_noref a q f fs (j + 1) h.2]
  | some r :: fs, j, h => by
    rw [List.all_cons, Bool.and_eq_true] at h
    have hr : r ≠ 14 := by
      intro e
      subst e
      simp at h
    rw [fvs, fvs, fvs_noref a q f fs (j + 1) h.2]
    simp [va_up, hr]
theorem shpC_noref : ∀ k sh, shpC[k]? = some sh → k ≠ 2 → k ≠ 14 → noref sh = true := by
  intro k sh h h2 h14
  have hk : k < shpC.length := (List.getElem?_eq_some_iff.mp h).1
  have hall : ∀ k : Fin shpC.length, k.val ≠ 2 → k.val ≠ 14 → noref (shpC[k.val]'k.isLt) = true := by decide
  have := hall ⟨k, hk⟩ h2 h14
  rw [List.getElem?_eq_getElem hk] at h
  rw [← Option.some.inj h]
  exact this
section YGr
variable {C : YC} {own : String} {cc : ByteArray} {nL pc : Nat} {rm : Room} {L : List (Nat × Value)} {st : List Value} {V : Sto}
set_option maxHeartbeats 4000000 in
set_option maxRecDepth 100000 in
theorem Y_grow {i1 i2 N : Nat} {n : Int32} (hC : YF C own cc nL rm) (hw : YWr C shpC) (hn : n = nI N) (hNb : N ≤ 100000) (hlen : (V 1000 14).toNatClampNeg < N) (hm : MLb own i1 y_copyOf b_copyOf 3 (some (.array .int)) 2) (hms : Cond.static y_copyOf ∈ ALLW) (hf : FL own i2 2 3)
    (hroom : 2 ≤ rm.frames ∧ 90 ≤ rm.locals ∧ C.k + 1 ≤ rm.cells ∧ C.n + N ≤ rm.slots) (hcat : (st.map fun v => v.category).sum ≤ 6) (d1 : decode cc pc = .ok (.invokestatic i1, 3)) (d2 : decode cc (pc + 3) = .ok (.putfield i2, 3))
    (kk : ∀ q : Nat, C.s.heap.size ≤ q → YF (C.grown q N) own cc nL rm → YWr (C.grown q N) shpC → Y (C.grown q N) shpC nL (pc + 6) L st (grow V N)) : Y C shpC nL pc L (.int n :: .ref (C.a 14) :: .ref (C.a 2) :: st) V := by
  have hC' := hC
  obtain ⟨hx, hb, hml, hown, hts, hK, hlk, hR, hA, hk1, hk2⟩ := hC'
  intro H locs ls hP hD hS hl
  have e14 : (C.ws shpC V)[14]? = some (C.a 14, .inl (C.cI, (V 1000 14).toNatClampNeg, .inl (V 14))) := by
    show (wsF _ _ _ _ _ _)[14]? = _
    rw [wsF_at, sc_14]
    rfl
  have hcb : CallB C.R C.s C.args own i1 y_copyOf b_copyOf 3 (some (.array .int)) (Cond.code y_copyOf b_copyOf 3 (some (.array .int)) :: ALLW) (rm_copyOf N) 1 N 2 :=
    callB_of 2 hts (gd_code hm.1) rfl rfl rfl (hts _ hm.2.2.1) (hts _ hm.2.1) hm.2.2.2 (by rw [hR]; exact ⟨hroom.1, by show 8 + (3 + 11) + 64 ≤ _; omega⟩)
  refine va_callr (va_runS (As := [.ref (C.a 14), .int n]) (rest := .ref (C.a 2) :: st) ⟨hx, hb, hml, hown, hts⟩ (c_copyOf C.l C.D C.cI C.cZ (C.a 14) _ (V 14) n N hn hNb hlen H.size) ⟨hcb, hts _ hms⟩
    ⟨fun a U g mk q => by obtain ⟨q0, q1, qP, qK, qD⟩ := q; exact ⟨q0, q1, qP, va_K.moved (u := U) (U := U.calling g mk a) (Vm.Alike.refl U.vm) qK, qD⟩, fun U hU hW => ⟨rfl, by rw [hU], by rw [hU]; exact P_one (hP 14 _ e14), va_K.moved hW.alike hK, D_one trivial⟩⟩ rfl rfl hl.1 rfl (lv_room (by rw [List.map_cons, List.sum_cons]; show 1 + _ ≤ 8; omega)) d1 ⟨by rw [hR]; exact hroom.2.2.1, by rw [hR]; exact hroom.2.2.2⟩) hS
    (fun q _ h => by
      rcases h with rfl | h
      · exact hw 14 (by decide)
      · exact hA q (Nat.le_trans hS.1 h)) (fun q h => by
      rcases h with rfl | h
      · exact hw 14 (by decide)
      · exact hA q (Nat.le_trans hS.1 h)) (fun u q t H1 locs ht hvm hw' hB hz1 hkk hS1 => ?_)
  obtain ⟨hq, hP1⟩ := hB
  rw [ht] at hP1
  have hPH : va_P C.D classes (C.ws shpC V) H1 := by
    intro k x hk
    by_cases h14 : k = 14
    · subst h14
      rw [e14] at hk
      cases hk
      exact hP1 0 _ rfl
    · refine (hP k x hk).kept (hkk x.1 (hP k x hk).lt (fun z => ?_))
      rcases z with z | z
      · exact h14 (hD.1 k 14 x _ hk e14 z)
      · exact absurd (hP k x hk).lt (Nat.not_lt.mpr z)
  have hDA := wsF_A hw hD
  have hPX : va_P C.D classes (C.ws shpC V ++ [(q, .inl (C.cI, N, .inl (va_cpy (V 14) (fun _ => 0) 0 0 (V 1000 14).toNatClampNeg)))]) H1 := hPH.app (P_one (hP1 1 _ rfl))
  have hDX : va_D C.A (C.ws shpC V ++ [(q, .inl (C.cI, N, .inl (va_cpy (V 14) (fun _ => 0) 0 0 (V 1000 14).toNatClampNeg)))]) := va_D.app hDA (D_one (hA q (Nat.le_trans hS.1 hq))) (fun i j p x hi hj e => by
      cases j with
      | zero =>
        cases hj
        have h1 := (hP i p hi).lt
        rw [e] at h1
        exact absurd h1 (Nat.not_lt.mpr hq)
      | succ j => cases hj)
  obtain ⟨RR, TT, NN, hc, hN, hin, hlink⟩ := hf
  cases hc.symm.trans cls_Se
  have e2 : (C.ws shpC V ++ [(q, .inl (C.cI, N, .inl (va_cpy (V 14) (fun _ => 0) 0 0 (V 1000 14).toNatClampNeg)))])[2]? = some (C.a 2, .inr (2, fvs C.a (V 2) 0 [none, none, none, some 14, some 15, some 16, some 17, some 18, some 19, some 20])) := by
    rw [List.getElem?_append_left (by show 2 < (wsF _ _ _ _ _ _).length; rw [wsF_len]; decide)]
    show (wsF _ _ _ _ _ _)[2]? = _
    rw [wsF_at, sc_2]
    rfl
  refine va_put (q0 := 2) (v := .ref q) (ty := .array .int) hx hb hts hin t_Se t_Se_ok n_Se hown hK hPX hDX hS1 e2 cls_Se 3 hN (hts _ hlink) (fun _ h => h) rfl (by decide +kernel) rfl rfl (by rw [fvs_len]; decide) d2 (fun H2 locs2 hP2 hD2 hS2 => ?_)
  have hlen0 : (C.ws shpC V).length = shpC.length := wsF_len _ _ _ _ _ _
  have hqn : ∀ k sh, shpC[k]? = some sh → C.a k ≠ q := by
    intro k sh hk e
    have h1 : (C.ws shpC V)[k]? = some (C.a k, cellE C.cI C.cZ C.a V k sh) := by
      show (wsF _ _ _ _ _ _)[k]? = _
      rw [wsF_at, hk]
      simp
    have h2 := (hP k _ h1).lt
    rw [show (C.a k, cellE C.cI C.cZ C.a V k sh).1 = q from e] at h2
    exact absurd h2 (Nat.not_lt.mpr hq)
  have key : ∀ (k : Nat) (x : Nat × va_E), (wsF C.cI C.cZ (va_up C.a 14 q) (grow V N) 0 shpC)[k]? = some x → va_at C.D classes x H2 := by
    intro k x hk
    rw [wsF_at] at hk
    cases hs : shpC[k]? with
    | none => rw [hs] at hk; cases hk
    | some sh =>
      rw [hs] at hk
      rw [Nat.zero_add] at hk
      have hkl : k < shpC.length := (List.getElem?_eq_some_iff.mp hs).1
      by_cases h14 : k = 14
      · subst h14
        cases hs.symm.trans sc_14
        cases hk
        have h1 := hP2 shpC.length (q, .inl (C.cI, N, .inl (va_cpy (V 14) (fun _ => 0) 0 0 (V 1000 14).toNatClampNeg))) (by
          rw [List.getElem?_set_ne (by decide), List.getElem?_append_right (by rw [hlen0]; exact Nat.le_refl _), hlen0, Nat.sub_self]
          rfl)
        have e : (va_up C.a 14 q 14, cellE C.cI C.cZ (va_up C.a 14 q) (grow V N) 14 (.inr (false, none))) = (q, .inl (C.cI, N, .inl (va_cpy (V 14) (fun _ => 0) 0 0 (V 1000 14).toNatClampNeg))) := by
          have : (grow V N 1000 14).toNatClampNeg = N := by
            simp only [grow, upd]
            exact nI_clamp (by omega)
          simp [va_up, cellE, arrC, alenOf, this]
          rfl
        show va_at C.D classes (va_up C.a 14 q 14, cellE C.cI C.cZ (va_up C.a 14 q) (grow V N) 14 (.inr (false, none))) H2
        rw [e]
        exact h1
      · by_cases h2 : k = 2
        · subst h2
          cases hs.symm.trans sc_2
          cases hk
          have h1 := hP2 2 _ (List.getElem?_set_self (by rw [List.length_append, hlen0]; exact Nat.lt_of_lt_of_le (by decide : 2 < shpC.length) (Nat.le_add_right _ _)))
          exact h1
        · have hnr := shpC_noref k sh hs h2 h14
          have h1000 : k ≠ 1000 := by
            have : shpC.length = 54 := rfl
            omega
          cases hk
          have h1 := hP2 k (C.a k, cellE C.cI C.cZ C.a V k sh) (by
            rw [List.getElem?_set_ne (Ne.symm h2), List.getElem?_append_left (by rw [hlen0]; exact hkl)]
            show (wsF _ _ _ _ _ _)[k]? = _
            rw [wsF_at, hs]
            simp)
          have e : (va_up C.a 14 q k, cellE C.cI C.cZ (va_up C.a 14 q) (grow V N) k sh) = (C.a k, cellE C.cI C.cZ C.a V k sh) := by
            have eg : grow V N k = V k := by
              simp [grow, h14, h1000]
            rcases sh with ⟨ci, fs⟩ | ⟨b, o⟩
            · simp only [cellE, eg, fvs_noref C.a q (V k) fs 0 hnr]
              simp [va_up, h14]
            · cases o with
              | none => cases hnr
              | some z => simp [cellE, alenOf, eg, va_up, h14]
          show va_at C.D classes (va_up C.a 14 q k, cellE C.cI C.cZ (va_up C.a 14 q) (grow V N) k sh) H2
          rw [e]
          exact h1
  have keyD : va_D (fun _ => True) (wsF C.cI C.cZ (va_up C.a 14 q) (grow V N) 0 shpC) := by
    refine ⟨fun i j x y hi hj hxy => ?_, fun _ _ _ => trivial⟩
    rw [wsF_at] at hi hj
    cases hsi : shpC[i]? with
    | none => rw [hsi] at hi; cases hi
    | some si =>
      cases hsj : shpC[j]? with
      | none => rw [hsj] at hj; cases hj
      | some sj =>
        rw [hsi] at hi
        rw [hsj] at hj
        cases hi
        cases hj
        simp only [Nat.zero_add] at hxy
        have inj : C.a i = C.a j → i = j := fun e => hD.1 i j (C.a i, cellE C.cI C.cZ C.a V i si) (C.a j, cellE C.cI C.cZ C.a V j sj) (by show (wsF _ _ _ _ _ _)[i]? = _; rw [wsF_at, hsi]; simp) (by show (wsF _ _ _ _ _ _)[j]? = _; rw [wsF_at, hsj]; simp) e
        by_cases hi14 : i = 14
        · by_cases hj14 : j = 14
          · rw [hi14, hj14]
          · simp [va_up, hi14, hj14] at hxy
            exact absurd hxy.symm (hqn j sj hsj)
        · by_cases hj14 : j = 14
          · simp [va_up, hi14, hj14] at hxy
            exact absurd hxy (hqn i si hsi)
          · simp [va_up, hi14, hj14] at hxy
            exact inj hxy
  have hqs : C.s.heap.size ≤ q := Nat.le_trans hS.1 hq
  exact kk q hqs ⟨hx, hb, hml, hown, hts, hK, hlk, hR, hA, by show C.k + 1 ≤ C.R.cells; rw [hR]; exact hroom.2.2.1, by show C.n + N ≤ C.R.slots; rw [hR]; exact hroom.2.2.2⟩ (fun k hk => by
    show C.A (va_up C.a 14 q k)
    by_cases h14 : k = 14
    · simp only [va_up, h14, if_true]
      exact hA q hqs
    · simp only [va_up, h14, if_false]
      exact hw k hk) H2 locs2 ls key keyD hS2 hl
end YGr
