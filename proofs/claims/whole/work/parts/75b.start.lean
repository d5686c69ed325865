def R_law : String := "LinkYardLaw"
def lw_P (b : Addr) (xs : List Int32) (args : Array Value) (s : State) : Prop := args = #[.ref b] ∧ s.IntsAt b xs ∧ xs.length ≤ 3072 ∧ (Jvm.Cond.and given_1 narrow_1).before args s = true
def lw_Q (_ : Array Value) (s : State) (o : Outcome) (t : State) : Prop := o = .returned (some (.int 1)) ∧ Framed s o t [] 601024 7293034
def lw_Z (below : List Frame) (a : Array Value) (s : State) : State → Prop := fun t => ∃ o, t.status = .running ∧ Ended t below o ∧ lw_Q a s o t
/-- the law's own end, with 1 on the stack, nothing written that was there before, its room as the claim has it -/
theorem lw_ret {p : Program} {l : Launch} {e : Env} {s : State} {m : MethodId} {below : List Frame} {meth : Method} {c : Code} {b : Nat} (hx : p.tables.exec = Jvm.exec) (hb : c.code = code) (hr : meth.sig.returnType = ret) (hlocks : meth.locks = false) {pc : Nat} {H : Heap} {ls : Array Slot} (hdg : decode code pc = .ok (.ireturn, 1)) : W p l e room_1 s m #[Value.ref b] below meth c H [] 601024 7293034 (lw_Z below #[Value.ref b] s) (F0 m pc ls [.int 1]) := by
  intro T hT X
  obtain ⟨fs, hret, hrun, hended, hW, hframe⟩ := X.leave (v := some (.int 1)) (hlocks := hlocks) (fun h => by rw [hr] at h; cases h)
  have hmeth' : T.vm.method? m = some meth := X.method'
  refine ⟨T.setFrames fs, ?_, .returned (some (.int 1)), hrun, hended, rfl, ⟨_, rfl⟩, hW, hframe⟩
  jvm_step X.here [X.here.top, hx, hb, hdg, hmeth', hr, ret, narrow_b1]
  (try refine ⟨rfl, ?_⟩); (try refine ⟨rfl, ?_⟩)
  first | (intro acts; rw [hret _ acts rfl rfl rfl]) | rw [hret _ _ rfl rfl rfl]
  exact Steps.refl _
/-- what holds at the law's entry: the machine, the code, the tables' words (any of lw_tbl by 'hts w (by decide +kernel)'), the script of L ints xs at the cell b, what the Statement gives of the start (any of its parts by flat_of_before) -/
def lw_At (p : Program) (s : State) (m : MethodId) (meth : Method) (c : Code) (b L : Nat) (xs : Nat → Int32) : Prop :=
  p.tables.exec = Jvm.exec ∧ c.code = code ∧ meth.sig.returnType = ret ∧ c.maxLocals = 7 ∧ s.vm.findClass R_law = some m.cls ∧ (∀ w ∈ lw_tbl, w.before #[Value.ref b] s = true) ∧ va_X b L xs s s.heap ∧ b < s.heap.size ∧ meth.locks = false ∧ (Jvm.Cond.and given_1 narrow_1).before #[Value.ref b] s = true
theorem kb_6 : (Int8.ofInt 6).toInt32 = 6 := by decide
theorem kb_31 : (Int8.ofInt 31).toInt32 = 31 := by decide
theorem nw_Lw_8 : NewOk "LinkYardLaw" 8 0 [.null, .null, .null, .null, .null, .null, .null, .null, .null, .null, .null, .int 0, .int 0, .int 0, .int 0, .int 0, .int 0, .int 0] := ⟨R_Ly, F_Ly, N_Ly, t_Ly, rfl, i_Ly, t_Ly_ok, (mw 115 (by decide +kernel)), (mw 116 (by decide +kernel)), (mw 83 (by decide +kernel)), by decide +kernel, rfl⟩
theorem ml_LinkYardLaw_76 : MLb "LinkYardLaw" 76 y_Ly_init b_Ly_init 1 (none) 0 := ⟨(mw 119 (by decide +kernel)), (mw 117 (by decide +kernel)), (mw 83 (by decide +kernel)), by decide +kernel⟩
theorem mi_Ly : Cond.instanceMethod y_Ly_init ∈ ALLW := (mw 118 (by decide +kernel))
theorem nw_Lw_77 : NewOk "LinkYardLaw" 77 12 [.int 0, .int 0, .null, .int 0, .null, .null, .null, .null, .null, .null, .int 0, .int 0, .null, .int 0, .null, .null, .null, .null, .null, .null, .int 0, .null, .null, .null, .null, .null, .int 0, .int 0, .int 0, .int 0, .int 0, .int 0, .int 0, .int 0, .int 0, .int 0, .null, .null, .null, .null, .null, .null, .null, .null, .null, .null, .null, .int 0, .null, .int 0] := ⟨R_Mo, F_Mo, N_Mo, t_Mo, rfl, i_Mo, t_Mo_ok, (mw 1559 (by decide +kernel)), (mw 1560 (by decide +kernel)), (mw 95 (by decide +kernel)), by decide +kernel, rfl⟩
theorem ml_LinkYardLaw_79 : MLb "LinkYardLaw" 79 y_Mo_init b_Mo_init 1 (none) 0 := ⟨(mw 1563 (by decide +kernel)), (mw 1561 (by decide +kernel)), (mw 95 (by decide +kernel)), by decide +kernel⟩
theorem mi_Mo : Cond.instanceMethod y_Mo_init ∈ ALLW := (mw 1562 (by decide +kernel))
theorem arrJ : Cond.arrayClass .long ∈ ALLW := (mw 1971 (by decide +kernel))
/-! The law's loop, its start, and the claim out of an invariant (LawOk). -/
theorem i32_ofNat {n : Nat} (h : n < 2 ^ 31) : (Int32.ofNat n).toInt = (n : Int) := nI_toInt h
theorem sub6 {L : Nat} (h : L ≤ 3072) : (Int32.ofNat L - 6).toInt = (L : Int) - 6 := by
  have h1 := i32_ofNat (n := L) (by omega)
  have h6 : (6 : Int32).toInt = 6 := by decide
  rw [subI (by rw [h1, h6]; omega) (by rw [h1, h6]; omega), h1, h6]
theorem inD {q L : Nat} (h : q + 6 ≤ L) (hL : L ≤ 3072) (d : Int32) (hd : 1 ≤ d ∧ d ≤ 5) : vp_in (nI q + d) L := by
  have h1 := nI_toInt (n := q) (by omega)
  have e1 := Int32.le_iff_toInt_le.mp hd.1
  have e2 := Int32.le_iff_toInt_le.mp hd.2
  have e3 : (1 : Int32).toInt = 1 := by decide
  have e4 : (5 : Int32).toInt = 5 := by decide
  rw [e3] at e1
  rw [e4] at e2
  have ha := addI (x := nI q) (y := d) (by omega) (by omega)
  intro hc
  rcases hc with hc | hc
  · have := Int32.lt_iff_toInt_lt.mp hc
    have e0 : (0 : Int32).toInt = 0 := by decide
    omega
  · have := clI (x := nI q + d) (by omega)
    omega
theorem in0 {q L : Nat} (h : q + 6 ≤ L) (hL : L ≤ 3072) : vp_in (nI q) L := by
  intro hc
  rcases hc with hc | hc
  · exact nI_pos (by omega) hc
  · rw [nI_clamp (by omega)] at hc
    omega
theorem Z_rot3 {C : YC} {nL k n pc : Nat} {L : List (Nat × Value)} {st : List Value} {X Y S : va_W} (kk : Z C nL k n pc L st (Y ++ (X ++ S))) : Z C nL k n pc L st (X ++ Y ++ S) := by
  intro H locs ls hP hD hS hl
  refine kk H locs ls (va_P.app (P_r (P_l hP)) (va_P.app (P_l (P_l hP)) (P_r hP))) ?_ hS hl
  have hxy := D_l hD
  refine va_D.app (D_r hxy) (va_D.app (D_l hxy) (D_r hD) (fun i j p q hi hj => D_x hD i j p q (by rw [List.getElem?_append_left (List.getElem?_eq_some_iff.mp hi).1]; exact hi) hj)) (fun i j p q hi hj e => ?_)
  rcases mem_app hj with ⟨j2, hj⟩ | ⟨j2, hj⟩
  · exact D_x hxy j2 i q p hj hi e.symm
  · exact D_x hD (X.length + i) j2 p q (by rw [List.getElem?_append_right (Nat.le_add_right _ _), Nat.add_sub_cancel_left]; exact hi) hj e
/-- an end of the law: true, with nothing changed that was there -/
def LE (C : YC) (b : Nat) : Prop := C.args = #[.ref b] ∧ C.Q = lw_Z C.below #[.ref b] C.s ∧ C.meth.sig.returnType = ret ∧ C.R = room_1 ∧ ∀ q, C.A q → C.s.heap.size ≤ q
theorem Z_lret {C : YC} {b nL k n pc : Nat} {L : List (Nat × Value)} {ws : va_W} (hC : YF C "LinkYardLaw" code nL room_1) (hE : LE C b) (hkn : k ≤ 601024 ∧ n ≤ 7293034) (d : decode code pc = .ok (.ireturn, 1)) : Z C nL k n pc L [.int 1] ws := by
  obtain ⟨hx, hb, hml, hown, hts, hK, hlk, hR, hA, hk1, hk2⟩ := hC
  obtain ⟨e1, e2, e3, e4, e5⟩ := hE
  intro H locs ls hP hD hS hl
  refine va_forget (fun q hq => e5 _ (hS.2.2 q hq)) ?_
  show W C.p C.l C.e C.R C.s C.m C.args C.below C.meth C.c H [] k n C.Q _
  rw [e1, e2, e4]
  refine W.widen hkn.1 hkn.2 ?_
  exact lw_ret hx hb e3 hlk d
set_option maxHeartbeats 4000000 in
set_option maxRecDepth 100000 in
theorem lw_loop {I : Sto → Sto → Prop} (hI : ∀ V M, I V M → LawStep I V M) {C : YC} {cJ : ClassId} {b LL : Nat} {xs : Nat → Int32} (hLL : LL ≤ 3072) (hC : YF C "LinkYardLaw" code 7 room_1) (G : LG C cJ b LL xs) (hE : LE C b) (a' : Nat → Nat) (o x : Nat) :
    ∀ (t q : Nat) (V M : Sto) (a : Nat → Nat) (f : Nat → Int64) (k n : Nat), LL - q = t → q ≤ LL → I V M → a 0 = x → k ≤ 1000 + q → n ≤ 260000 + q + phi V → Z C 7 k n 23 (lwL (nI q) o (a' 0) x b) [] (wsF C.cI C.cZ a' M 0 shpM ++ (wsF C.cI C.cZ a V 0 shpC ++ [outC cJ o f])) := by
  intro t
  induction t using Nat.strongRecOn with
  | ind t ih =>
  intro q V M a f k n ht hq hIV hax hk hn
  subst hax
  have hph := phi_le V
  have hkn : k + 2 ≤ 601024 ∧ n + 310000 ≤ 7293034 := ⟨by omega, by omega⟩
  have hG := G
  obtain ⟨hJ, hXT, hNC, hX, hbl, hbA, hN⟩ := hG
  refine Z_iload (pc := 23) hC d_law_23 0 rfl ?_
  refine Z_aload_n (pc := 25) hC d_law_25 rfl 4 rfl ?_
  refine Z_slen (pc := 26) hC hX hbl hbA d_law_26 ?_
  refine Z_bipush (pc := 27) hC d_law_27 kb_6 ?_
  refine Z_isub (pc := 29) hC d_law_29 ?_
  refine Z_icmp_gt (pc := 30) hC 1347 d_law_30 rfl (fun hgt => ?_) (fun hgt => ?_)
  · refine Z_iconst (pc := 1347) hC d_law_1347 ki_1 ?_
    exact Z_lret (pc := 1348) hC hE ⟨by omega, by omega⟩ d_law_1348
  · have hq6 : q + 6 ≤ LL := by
      have h1 : ¬ (Int32.ofNat LL - 6).toInt < (nI q).toInt := fun z => hgt (Int32.lt_iff_toInt_lt.mpr z)
      rw [sub6 hLL, nI_toInt (by omega)] at h1
      omega
    have hin : ∀ d : Int32, (1 ≤ d ∧ d ≤ 5) → vp_in (nI q + d) LL := inD hq6 hLL
    have kk : LK C cJ I a a' o b (nI q) k n V := by
      intro V' M' a1 f1 k' n' hI' ha1 hk' hn'
      refine Z_iinc (pc := 1341) hC (L' := lwL (nI (q + 6)) o (a' 0) (a 0) b) d_law_1341 0 rfl (v := nI (q + 6)) ?_ (by decide) rfl ?_
      · refine eqI ?_
        have h6 : (Int32.ofInt 6).toInt = 6 := by decide
        have h1 := nI_toInt (n := q) (by omega)
        rw [addI (by rw [h1, h6]; omega) (by rw [h1, h6]; omega), h1, h6, nI_toInt (by omega)]
        omega
      · refine Z_goto (pc := 1344) hC 23 d_law_1344 rfl ?_
        exact ih (LL - (q + 6)) (by omega) (q + 6) V' M' a1 f1 k' n' rfl (by omega) hI' ha1 (by omega) (by omega)
    refine Z_aload_n (pc := 33) hC d_law_33 rfl 4 rfl ?_
    refine Z_iload (pc := 34) hC d_law_34 0 rfl ?_
    refine Z_sald (pc := 36) hC hX hbl hbA (in0 hq6 hLL) d_law_36 ?_
    refine Z_bipush (pc := 37) hC d_law_37 kb_31 ?_
    refine Z_iand (pc := 39) hC d_law_39 ?_
    obtain ⟨s0, s1, s2, s3, s4, s5, s6, s7, s8, s9, s10, s11, s12, s13, s14, s15, s16, s17, s18⟩ := hI V M hIV
    generalize xs (nI q).toNatClampNeg &&& 31 = v
    have hv : v.toInt < 0 ∨ 18 < v.toInt ∨ v.toInt = 0 ∨ v.toInt = 1 ∨ v.toInt = 2 ∨ v.toInt = 3 ∨ v.toInt = 4 ∨ v.toInt = 5 ∨ v.toInt = 6 ∨ v.toInt = 7 ∨ v.toInt = 8 ∨ v.toInt = 9 ∨ v.toInt = 10 ∨ v.toInt = 11 ∨ v.toInt = 12 ∨ v.toInt = 13 ∨ v.toInt = 14 ∨ v.toInt = 15 ∨ v.toInt = 16 ∨ v.toInt = 17 ∨ v.toInt = 18 := by omega
    rcases hv with h | h | h | h | h | h | h | h | h | h | h | h | h | h | h | h | h | h | h | h | h
    · refine Z_tableOut (pc := 40) hC 1341 d_law_40 (Or.inl h) rfl ?_
      exact kk V M a f k n hIV rfl (by omega) (by omega)
    · refine Z_tableOut (pc := 40) hC 1341 d_law_40 (Or.inr h) rfl ?_
      exact kk V M a f k n hIV rfl (by omega) (by omega)
    · refine Z_tableIn (pc := 40) hC 132 (off := 92) d_law_40 (by rw [h]; decide) (by rw [h]; decide) (by rw [h]; rfl) rfl ?_
      exact lc_unit hC G hin hkn (s0 _) kk
    · refine Z_tableIn (pc := 40) hC 188 (off := 148) d_law_40 (by rw [h]; decide) (by rw [h]; decide) (by rw [h]; rfl) rfl ?_
      exact lc_section hC G hin hkn (s1 _ _ _ _) kk
    · refine Z_tableIn (pc := 40) hC 280 (off := 240) d_law_40 (by rw [h]; decide) (by rw [h]; decide) (by rw [h]; rfl) rfl ?_
      exact lc_word hC G hin hkn (s2 _ _ _) kk
    · refine Z_tableIn (pc := 40) hC 340 (off := 300) d_law_40 (by rw [h]; decide) (by rw [h]; decide) (by rw [h]; rfl) rfl ?_
      exact lc_symbol hC G hin hkn (s3 _ _ _ _) kk
    · refine Z_tableIn (pc := 40) hC 432 (off := 392) d_law_40 (by rw [h]; decide) (by rw [h]; decide) (by rw [h]; rfl) rfl ?_
      exact lc_other hC G hin hkn (s4 _ _ _ _ _) kk
    · refine Z_tableIn (pc := 40) hC 536 (off := 496) d_law_40 (by rw [h]; decide) (by rw [h]; decide) (by rw [h]; rfl) rfl ?_
      exact lc_relocation hC G hin hkn (s5 _ _ _ _ _) kk
    · refine Z_tableIn (pc := 40) hC 640 (off := 600) d_law_40 (by rw [h]; decide) (by rw [h]; decide) (by rw [h]; rfl) rfl ?_
      exact lc_entry hC G hin hkn (s6 _) kk
    · refine Z_tableIn (pc := 40) hC 676 (off := 636) d_law_40 (by rw [h]; decide) (by rw [h]; decide) (by rw [h]; rfl) rfl ?_
      exact lc_keep hC G hin hkn (s7 _) kk
    · refine Z_tableIn (pc := 40) hC 740 (off := 700) d_law_40 (by rw [h]; decide) (by rw [h]; decide) (by rw [h]; rfl) rfl ?_
      exact lc_fold hC G hin hkn s8 kk
    · refine Z_tableIn (pc := 40) hC 807 (off := 767) d_law_40 (by rw [h]; decide) (by rw [h]; decide) (by rw [h]; rfl) rfl ?_
      exact lc_clear hC G hin hkn s9 kk
    · refine Z_tableIn (pc := 40) hC 818 (off := 778) d_law_40 (by rw [h]; decide) (by rw [h]; decide) (by rw [h]; rfl) rfl ?_
      exact lc_link hC G hin hkn (s10 _) kk
    · refine Z_tableIn (pc := 40) hC 874 (off := 834) d_law_40 (by rw [h]; decide) (by rw [h]; decide) (by rw [h]; rfl) rfl ?_
      exact lc_fault hC G hin hkn (s11 _) kk
    · refine Z_tableIn (pc := 40) hC 930 (off := 890) d_law_40 (by rw [h]; decide) (by rw [h]; decide) (by rw [h]; rfl) rfl ?_
      exact lc_isIn hC G hin hkn (s12 _) kk
    · refine Z_tableIn (pc := 40) hC 993 (off := 953) d_law_40 (by rw [h]; decide) (by rw [h]; decide) (by rw [h]; rfl) rfl ?_
      exact lc_address hC G hin hkn (s13 _) kk
    · refine Z_tableIn (pc := 40) hC 1049 (off := 1009) d_law_40 (by rw [h]; decide) (by rw [h]; decide) (by rw [h]; rfl) rfl ?_
      exact lc_like hC G hin hkn (s14 _) kk
    · refine Z_tableIn (pc := 40) hC 1105 (off := 1065) d_law_40 (by rw [h]; decide) (by rw [h]; decide) (by rw [h]; rfl) rfl ?_
      exact lc_means hC G hin hkn (s15 _ _) kk
    · refine Z_tableIn (pc := 40) hC 1173 (off := 1133) d_law_40 (by rw [h]; decide) (by rw [h]; decide) (by rw [h]; rfl) rfl ?_
      exact lc_common hC G hin hkn (s16 _) kk
    · refine Z_tableIn (pc := 40) hC 1229 (off := 1189) d_law_40 (by rw [h]; decide) (by rw [h]; decide) (by rw [h]; rfl) rfl ?_
      exact lc_at hC G hin hkn (s17 _) kk
    · refine Z_tableIn (pc := 40) hC 1285 (off := 1245) d_law_40 (by rw [h]; decide) (by rw [h]; decide) (by rw [h]; rfl) rfl ?_
      exact lc_about hC G hin hkn (s18 _) kk
set_option maxHeartbeats 4000000 in
set_option maxRecDepth 100000 in
theorem Z_newJ {C : YC} {own : String} {cc : ByteArray} {nL pc k n : Nat} {rm : Room} {L : List (Nat × Value)} {st : List Value} {ws : va_W} {cJ : ClassId} (hC : YF C own cc nL rm) (hJ : va_K C.D classes [(cJ, .long)] C.s) (d : decode cc pc = .ok (.newarray .long, 2)) (hroom : k + 1 ≤ rm.cells ∧ n + 1 ≤ rm.slots) (kk : ∀ q : Nat, Z C nL (k + 1) (n + 1) (pc + 2) L (.ref q :: st) (ws ++ [outC cJ q (fun _ => 0)])) : Z C nL k n pc L (.int 1 :: st) ws := by
  obtain ⟨hx, hb, hml, hown, hts, hK, hlk, hR, hA, hk1, hk2⟩ := hC
  intro H locs ls hP hD hS hl
  refine va_newa (atype := .long) (ty := .long) (a0 := (1, .inr (.inl (fun _ => 0)))) (N' := 1) hx hb (hts _ arrJ) rfl hJ hP hD hS hA (fun cA => rfl) (by decide) (by decide) (by decide) (by rw [hR]; exact hroom.1) (by rw [hR]; exact hroom.2) d (fun q cA H hK2 hP hD hS => ?_)
  have hcA : cJ = cA := by
    have h1 := (hJ.2 0 _ rfl).2
    have h2 := (hK2.2 1 (cA, .long) rfl).2
    exact Option.some.inj ((show C.s.vm.findClass ("[" ++ FieldType.long.toString) = some cJ from h1).symm.trans h2)
  subst hcA
  exact kk q H locs ls hP hD hS hl
/-- what stands at the law's start beside its tables -/
theorem arr_of {s : State} {args : Array Value} {ty : FieldType} (h : (Cond.arrayClass ty).before args s = true) (hty : ∀ C, ty ≠ .object C) : ∃ cA : ClassId, ArrOfT s cA ty ∧ va_RA s cA ty := by
  obtain ⟨cA, kA, comp, hfind, hk, hkind⟩ := Cond.arrayClass_spec h
  refine ⟨cA, fun n z => ⟨fun k h => (by cases h), kA, hk, comp, hkind⟩, ?_⟩
  cases ty with
  | object C => exact absurd rfl (hty C)
  | _ => exact hfind
theorem str_of {s : State} {args : Array Value} {own tx : String} {k : Nat} (h : (Cond.stringRef own k tx).before args s = true) : ∃ a, vk_R own k tx a s := by
  have h0 : (Cond.stringRef own k tx).before #[] s = true := h
  have h1 := h0
  simp only [Cond.before, Cond.holds, Cond.value] at h1
  cases hc : s.vm.findClass own with
  | none => simp [hc] at h1
  | some c =>
    cases hr : s.resolvedAt? own k with
    | none => simp [hc, hr] at h1
    | some r =>
      cases r with
      | string a =>
        refine ⟨a, h0, ?_⟩
        unfold State.resolvedAt? at hr
        simp only [Term.eval]
        rw [hc] at hr ⊢
        simp only [Option.bind_eq_bind, Option.bind_some] at hr ⊢
        cases hk : s.vm.classes[c]? with
        | none => rw [hk] at hr; cases hr
        | some kl =>
          rw [hk] at hr
          simp only [Option.bind_some] at hr ⊢
          rw [hr]
          rfl
      | _ => simp [hc, hr] at h1
theorem kn_all {s : State} {args : Array Value} (hts : ∀ w ∈ ALLW, w.before args s = true) : ∃ D : va_G, ∀ (c : Nat) (q : vw_C), classes[c]? = some q → u_Kn s q.1 q.2.1 q.2.2 (D.1 c) (D.2 c) := by
  have h : ∀ c : Nat, ∃ (cC : ClassId) (iS : Nat → Nat), ∀ q : vw_C, classes[c]? = some q → u_Kn s q.1 q.2.1 q.2.2 cC iS := by
    intro c
    cases hc : classes[c]? with
    | none => exact ⟨default, fun _ => 0, fun q hq => by cases hq⟩
    | some q =>
      have hq : ∃ (cC : ClassId) (iS : Nat → Nat), u_Kn s q.1 q.2.1 q.2.2 cC iS := by
        have hl : c < classes.length := (List.getElem?_eq_some_iff.mp hc).1
        have hc2 : classes[c] = q := (List.getElem?_eq_some_iff.mp hc).2
        subst hc2
        have h13 : c < 13 := hl
        have hc13 : c = 0 ∨ c = 1 ∨ c = 2 ∨ c = 3 ∨ c = 4 ∨ c = 5 ∨ c = 6 ∨ c = 7 ∨ c = 8 ∨ c = 9 ∨ c = 10 ∨ c = 11 ∨ c = 12 := by omega
        rcases hc13 with rfl | rfl | rfl | rfl | rfl | rfl | rfl | rfl | rfl | rfl | rfl | rfl | rfl
        · exact u_known (n := N_Ly) hts i_Ly (hts (Cond.instantiable R_Ly N_Ly) (mw 116 (by decide +kernel)))
        · exact u_known (n := N_Un) hts i_Un (hts (Cond.instantiable R_Un N_Un) (mw 124 (by decide +kernel)))
        · exact u_known (n := N_Se) hts i_Se (hts (Cond.instantiable R_Se N_Se) (mw 149 (by decide +kernel)))
        · exact u_known (n := N_Sy) hts i_Sy (hts (Cond.instantiable R_Sy N_Sy) (mw 205 (by decide +kernel)))
        · exact u_known (n := N_Re) hts i_Re (hts (Cond.instantiable R_Re N_Re) (mw 247 (by decide +kernel)))
        · exact u_known (n := N_Ar) hts i_Ar (hts (Cond.instantiable R_Ar N_Ar) (mw 303 (by decide +kernel)))
        · exact u_known (n := N_Na) hts i_Na (hts (Cond.instantiable R_Na N_Na) (mw 322 (by decide +kernel)))
        · exact u_known (n := N_Rc) hts i_Rc (hts (Cond.instantiable R_Rc N_Rc) (mw 370 (by decide +kernel)))
        · exact u_known (n := N_Fo) hts i_Fo (hts (Cond.instantiable R_Fo N_Fo) (mw 406 (by decide +kernel)))
        · exact u_known (n := N_La) hts i_La (hts (Cond.instantiable R_La N_La) (mw 433 (by decide +kernel)))
        · exact u_known (n := N_Is) hts i_Is (hts (Cond.instantiable R_Is N_Is) (mw 479 (by decide +kernel)))
        · exact u_known (n := N_Me) hts i_Me (hts (Cond.instantiable R_Me N_Me) (mw 521 (by decide +kernel)))
        · exact u_known (n := N_Mo) hts i_Mo (hts (Cond.instantiable R_Mo N_Mo) (mw 1560 (by decide +kernel)))
      obtain ⟨cC, iS, h⟩ := hq
      exact ⟨cC, iS, fun q2 hq2 => by cases hq2; exact h⟩
  exact ⟨(fun c => Classical.choose (h c), fun c => Classical.choose (Classical.choose_spec (h c))), fun c q hq => Classical.choose_spec (Classical.choose_spec (h c)) q hq⟩
theorem notr {l : Launch} (h : l.flags = flags0) : NoTr l := by
  intro e he
  rw [he.platform]
  show l.stackTraces = false
  unfold Launch.stackTraces
  rw [h]
  decide +kernel
