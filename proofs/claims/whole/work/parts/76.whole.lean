def NWok (w : Cond) : Bool := match w with
  | .methodLinkNest .. => true
  | _ => false
theorem NW_ok : NestW.all NWok = true := by decide +kernel
theorem NW_in : NestW.all (fun w => decide (w ∈ lw_tbl)) = true := by decide +kernel
theorem XW_in : XW.all (fun w => decide (w ∈ lw_tbl)) = true := by decide +kernel
theorem XS_in : XS.all (fun q => decide (Cond.stringRef "LinkYard" q.1 q.2 ∈ lw_tbl)) = true := by decide +kernel
theorem NW_same {u U : State} (h : u.vm = U.vm) (hw : ∀ w ∈ NestW, va_Nw w u) : ∀ w ∈ NestW, va_Nw w U := by
  intro w hm
  have h1 := List.all_eq_true.mp NW_ok w hm
  have h2 := hw w hm
  cases w with
  | methodLinkNest a i x y => exact va_Nw.same rfl h h2
  | _ => cases h1
theorem NW_warm {s U : State} (h : s.WarmedH U.vm) (hw : ∀ w ∈ NestW, va_Nw w s) : ∀ w ∈ NestW, va_Nw w U := by
  intro w hm
  have h1 := List.all_eq_true.mp NW_ok w hm
  have h2 := hw w hm
  cases w with
  | methodLinkNest a i x y => exact va_Nw.warmM h h2
  | _ => cases h1
theorem NW_of {s : State} {args : Array Value} (hts : ∀ w ∈ lw_tbl, w.before args s = true) : ∀ w ∈ NestW, va_Nw w s := by
  intro w hm
  have h1 := List.all_eq_true.mp NW_ok w hm
  have h2 := hts w (of_decide_eq_true (List.all_eq_true.mp NW_in w hm))
  cases w with
  | methodLinkNest a i x y => exact va_Nw.of rfl h2
  | _ => cases h1
theorem XW_of {s : State} {args : Array Value} (hts : ∀ w ∈ lw_tbl, w.before args s = true) : ∀ w ∈ XW, va_Nw w s := by
  intro w hm
  have h1 := List.all_eq_true.mp XW_ok w hm
  have h2 := hts w (of_decide_eq_true (List.all_eq_true.mp XW_in w hm))
  cases w with
  | castable a b => exact va_Nw.of rfl h2
  | declares x => exact va_Nw.of rfl h2
  | _ => cases h1
theorem lx_1 : Cond.laysStatic thN "UNASSIGNED_STACK" thU ∈ lw_tbl := by decide +kernel
theorem lx_2 : Cond.laysStatic thN "SUPPRESSED_SENTINEL" thL ∈ lw_tbl := by decide +kernel
theorem P_nil {D : va_G} {cl : List vw_C} {H : Heap} : va_P D cl [] H := fun k q hk => by cases hk
theorem D_nil {A : Nat → Prop} : va_D A [] := ⟨fun i j p q hi => (by cases hi), fun k q hk => (by cases hk)⟩
theorem K_one {D : va_G} {s : State} {c : ClassId} {ty : FieldType} (h : ∀ (c : Nat) (q : vw_C), classes[c]? = some q → u_Kn s q.1 q.2.1 q.2.2 (D.1 c) (D.2 c)) (h1 : ArrOfT s c ty ∧ va_RA s c ty) : va_K D classes [(c, ty)] s := ⟨h, fun k q hk => by
  cases k with
  | zero => cases hk; exact h1
  | succ k => cases hk⟩
set_option maxHeartbeats 40000000 in
set_option maxRecDepth 100000 in
theorem whole_start' {I : Sto → Sto → Prop} (hOk : LawOk I) {p : Program} {e : Env} {s : State} {m : MethodId} {below : List Frame} {meth : Method} {c : Code} (l : Launch) (hN : NoTr l) {b L : Nat} {xs : Nat → Int32} (hL : L ≤ 3072) (C0 : lw_At p s m meth c b L xs) : W p l e room_1 s m #[Value.ref b] below meth c s.heap [] 0 0 (lw_Z below #[Value.ref b] s) (entryFrame m ([Value.ref b] : List Value).toArray 7) := by
  obtain ⟨hx, hb, hr, hml, hown, hts', hX, hbl, hlk, hgv⟩ := C0
  have hts := allw_in hts'
  obtain ⟨D, hD⟩ := kn_all hts
  obtain ⟨cI, hcI⟩ := arr_of (hts _ arrI) (fun C h => by cases h)
  obtain ⟨cZ, hcZ⟩ := arr_of (hts _ arrZ) (fun C h => by cases h)
  obtain ⟨cJ, hcJ⟩ := arr_of (hts _ arrJ) (fun C h => by cases h)
  have hflat := flat_of_before _ hgv
  have hK : va_K D classes (tysOf cI cZ) s := (K_one hD hcI).app (K_one hD hcZ)
  have hA : ∀ a : Nat, a < s.heap.size → ¬ (s.heap.size ≤ a) := fun a h1 h2 => Nat.not_le.mpr h1 h2
  have hXT : XT (fun q => s.heap.size ≤ q) s s.heap := ⟨XW_of hts', ZS.of (hts' _ lx_1) (hflat _ (by decide +kernel)) hA, ZS.of (hts' _ lx_2) (hflat _ (by decide +kernel)) hA, fun q hq => str_of (hts' _ (of_decide_eq_true (List.all_eq_true.mp XS_in q hq)))⟩
  have hNC : NCs s := by
    intro q hq
    have h1 : va_Nc "java/lang/UnsupportedOperationException" "java/lang/IllegalArgumentException" s := va_Nc.of (hflat _ (by decide +kernel))
    have h2 : va_Nc "java/lang/IllegalArgumentException" "java/lang/IllegalStateException" s := va_Nc.of (hflat _ (by decide +kernel))
    have h3 : va_Nc "java/lang/IndexOutOfBoundsException" "java/lang/IllegalStateException" s := va_Nc.of (hflat _ (by decide +kernel))
    rcases List.mem_cons.mp hq with rfl | hq
    · exact h1
    · rcases List.mem_cons.mp hq with rfl | hq
      · exact h2
      · rcases List.mem_cons.mp hq with rfl | hq
        · exact h3
        · cases hq
  have hNW := NW_of hts'
  have key : ∀ C : YC, C = ((p, l, e, room_1, s), (m, #[Value.ref b], below, meth, c), (D, cI, cZ), (fun _ => 0, fun q => s.heap.size ≤ q), (0, 0), lw_Z below #[Value.ref b] s) → Z C 7 0 0 0 [(0, .ref b)] [] [] := by
    intro C hCe
    have hC : YF C "LinkYardLaw" code 7 room_1 := by
      subst hCe
      exact ⟨hx, hb, hml, hown, hts, hK, hlk, rfl, fun q h => h, Nat.zero_le _, Nat.zero_le _⟩
    have hE : LE C b := by
      subst hCe
      exact ⟨rfl, rfl, hr, rfl, fun q h => h⟩
    have hJ : va_K C.D classes [(cJ, .long)] C.s := by
      subst hCe
      exact K_one hD hcJ
    have G : LG C cJ b L xs := by
      subst hCe
      exact ⟨hJ, hXT, hNC, hX, hbl, hA b hbl, hN⟩
    have hNs : ∀ U : State, C.s.WarmedH U.vm → ∀ w ∈ NestW, va_Nw w U := by
      subst hCe
      exact fun U hU => NW_warm hU hNW
    refine Z_new (pc := 0) hC nw_Lw_8 d_law_0 ⟨Nat.le_of_ble_eq_true rfl, Nat.le_of_ble_eq_true rfl⟩ (fun q1 => ?_)
    refine Z_dup (pc := 3) hC d_law_3 rfl ?_
    refine Z_callK (P := []) (pc := 4) hC (k_Ly C.l C.D C.cI C.cZ q1) (fun u U h hw => NW_same h hw) hNs rfl ml_LinkYardLaw_76 mi_Ly ⟨⟨Nat.le_of_ble_eq_true rfl, Nat.le_of_ble_eq_true rfl⟩, Nat.le_of_ble_eq_true rfl, Nat.le_of_ble_eq_true rfl⟩ (Nat.le_of_ble_eq_true rfl) rfl d_law_4 (fun w hw => ?_)
    obtain ⟨a, ha, rfl⟩ := hw
    refine Z_astore_n (pc := 7) hC (L' := [(1, .ref q1), (0, .ref b)]) d_law_7 rfl (by decide) rfl ?_
    refine Z_new (pc := 8) hC nw_Lw_77 d_law_8 ⟨Nat.le_of_ble_eq_true rfl, Nat.le_of_ble_eq_true rfl⟩ (fun q2 => ?_)
    refine Z_dup (pc := 11) hC d_law_11 rfl ?_
    refine Z_callK (P := wsF C.cI C.cZ a V0C 0 shpC) (pc := 12) hC (k_Mo C.l C.D C.cI C.cZ q2) (fun _ _ _ h => h) (fun _ _ => trivial) rfl ml_LinkYardLaw_79 mi_Mo ⟨⟨Nat.le_of_ble_eq_true rfl, Nat.le_of_ble_eq_true rfl⟩, Nat.le_of_ble_eq_true rfl, Nat.le_of_ble_eq_true rfl⟩ (Nat.le_of_ble_eq_true rfl) rfl d_law_12 (fun w hw => ?_)
    obtain ⟨a', ha', rfl⟩ := hw
    refine Z_astore_n (pc := 15) hC (L' := [(2, .ref q2), (1, .ref q1), (0, .ref b)]) d_law_15 rfl (by decide) rfl ?_
    refine Z_iconst (pc := 16) hC d_law_16 ki_1 ?_
    refine Z_newJ (pc := 17) hC hJ d_law_17 ⟨Nat.le_of_ble_eq_true rfl, Nat.le_of_ble_eq_true rfl⟩ (fun o => ?_)
    refine Z_astore_n (pc := 19) hC (L' := [(3, .ref o), (2, .ref q2), (1, .ref q1), (0, .ref b)]) d_law_19 rfl (by decide) rfl ?_
    refine Z_iconst (pc := 20) hC d_law_20 ki_0 ?_
    refine Z_istore (pc := 21) hC (L' := lwL (nI 0) o q2 q1 b) d_law_21 (by decide) rfl ?_
    refine Z_rot3 (X := wsF C.cI C.cZ a V0C 0 shpC) (Y := wsF C.cI C.cZ a' V0M 0 shpM) (S := [outC cJ o (fun _ => 0)]) ?_
    subst ha'
    exact lw_loop hOk.2 hL hC G hE a' o q1 (L - 0) 0 V0C V0M a (fun _ => 0) _ _ rfl (Nat.zero_le _) hOk.1 ha (Nat.le_of_ble_eq_true rfl) (Nat.le_trans (Nat.le_of_ble_eq_true rfl : _ ≤ 260000) (Nat.le_add_right _ _))
  have hl := lv_entry [Value.ref b] (n := 7) (Nat.le_of_ble_eq_true rfl)
  rw [lg_entry_eq]
  exact key _ rfl s.heap [] _ P_nil D_nil va_S.rf hl
