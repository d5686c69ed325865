/-! The law and its helpers: more rows of Z, worlds side by side, a call that is caught. -/
theorem P_l {D : va_G} {cl : List vw_C} {X Y : va_W} {H : Heap} (h : va_P D cl (X ++ Y) H) : va_P D cl X H := fun k q hk => h k q (by rw [List.getElem?_append_left (List.getElem?_eq_some_iff.mp hk).1]; exact hk)
theorem P_r {D : va_G} {cl : List vw_C} {X Y : va_W} {H : Heap} (h : va_P D cl (X ++ Y) H) : va_P D cl Y H := fun k q hk => h (X.length + k) q (by rw [List.getElem?_append_right (Nat.le_add_right _ _), Nat.add_sub_cancel_left]; exact hk)
theorem D_l {A : Nat → Prop} {X Y : va_W} (h : va_D A (X ++ Y)) : va_D A X := by
  have e : ∀ (k : Nat) (q : Nat × va_E), X[k]? = some q → (X ++ Y)[k]? = some q := fun k q hk => by rw [List.getElem?_append_left (List.getElem?_eq_some_iff.mp hk).1]; exact hk
  exact ⟨fun i j p q hi hj => h.1 i j p q (e i p hi) (e j q hj), fun k q hk => h.2 k q (e k q hk)⟩
theorem D_r {A : Nat → Prop} {X Y : va_W} (h : va_D A (X ++ Y)) : va_D A Y := by
  have e : ∀ (k : Nat) (q : Nat × va_E), Y[k]? = some q → (X ++ Y)[X.length + k]? = some q := fun k q hk => by rw [List.getElem?_append_right (Nat.le_add_right _ _), Nat.add_sub_cancel_left]; exact hk
  exact ⟨fun i j p q hi hj hpq => by have := h.1 _ _ p q (e i p hi) (e j q hj) hpq; omega, fun k q hk => h.2 _ q (e k q hk)⟩
theorem D_x {A : Nat → Prop} {X Y : va_W} (h : va_D A (X ++ Y)) (i j : Nat) (p q : Nat × va_E) (hi : X[i]? = some p) (hj : Y[j]? = some q) : p.1 ≠ q.1 := by
  intro e
  have hl := (List.getElem?_eq_some_iff.mp hi).1
  have := h.1 i (X.length + j) p q (by rw [List.getElem?_append_left hl]; exact hi) (by rw [List.getElem?_append_right (Nat.le_add_right _ _), Nat.add_sub_cancel_left]; exact hj) e
  omega
theorem mem_app {X Y : va_W} {k : Nat} {q : Nat × va_E} (h : (X ++ Y)[k]? = some q) : (∃ i : Nat, X[i]? = some q) ∨ ∃ j : Nat, Y[j]? = some q := by
  by_cases hl : k < X.length
  · rw [List.getElem?_append_left hl] at h
    exact Or.inl ⟨k, h⟩
  · rw [List.getElem?_append_right (by omega)] at h
    exact Or.inr ⟨_, h⟩
theorem joinT {A0 : Nat → Prop} {D : va_G} {cl : List vw_C} {P X S X1 : va_W} {H H1 : Heap} (hP : va_P D cl (P ++ (X ++ S)) H) (hD : va_D A0 (P ++ (X ++ S))) (hk : ∀ q : Nat, q < H.size → ¬ va_A X H.size q → H1[q]? = H[q]?) (hF : ∀ q, va_A X H.size q → A0 q) (hP1 : va_P D cl X1 H1) (hD1 : va_D (va_A X H.size) X1) :
    va_P D cl (P ++ (X1 ++ S)) H1 ∧ va_D A0 (P ++ (X1 ++ S)) := by
  have ap : ∀ (j : Nat) (q : Nat × va_E), ((∃ i : Nat, P[i]? = some q) ∨ ∃ i : Nat, S[i]? = some q) → q.1 < H.size ∧ ¬ va_A X H.size q.1 := by
    intro _ q h
    have hlt : q.1 < H.size := by
      rcases h with ⟨i, h⟩ | ⟨i, h⟩
      · exact (P_l hP i q h).lt
      · exact (P_r (P_r hP) i q h).lt
    refine ⟨hlt, fun z => ?_⟩
    rcases z with ⟨k2, e, z⟩ | z
    · rcases h with ⟨i, h⟩ | ⟨i, h⟩
      · exact D_x hD i k2 q (q.1, e) h (by rw [List.getElem?_append_left (List.getElem?_eq_some_iff.mp z).1]; exact z) rfl
      · exact D_x (D_r hD) k2 i (q.1, e) q z h rfl
    · omega
  refine ⟨va_P.app (fun k q hq => ?_) (va_P.app hP1 (fun k q hq => ?_)), va_D.app (D_l hD) (va_D.app (hD1.weaken (fun k q _ h => hF q.1 h)) (D_r (D_r hD)) (fun i j x y hx hy hxy => ?_)) (fun i j x y hx hy hxy => ?_)⟩
  · obtain ⟨g1, g2⟩ := ap 0 q (Or.inl ⟨k, hq⟩)
    exact (P_l hP k q hq).kept (hk q.1 g1 g2)
  · obtain ⟨g1, g2⟩ := ap 0 q (Or.inr ⟨k, hq⟩)
    exact (P_r (P_r hP) k q hq).kept (hk q.1 g1 g2)
  · exact (ap 0 y (Or.inr ⟨j, hy⟩)).2 (by rw [← hxy]; exact hD1.2 i x hx)
  · rcases mem_app hy with ⟨j2, hy⟩ | ⟨j2, hy⟩
    · exact (ap 0 x (Or.inl ⟨i, hx⟩)).2 (by rw [hxy]; exact hD1.2 j2 y hy)
    · exact D_x hD i (X.length + j2) x y hx (by rw [List.getElem?_append_right (Nat.le_add_right _ _), Nat.add_sub_cancel_left]; exact hy) hxy
theorem freeT {A0 : Nat → Prop} {P X S : va_W} {H0 H : Heap} {locs : List Loc} (hD : va_D A0 (P ++ (X ++ S))) (hS : va_S A0 H0 H locs) (hA : ∀ q : Nat, H0.size ≤ q → A0 q) : ∀ q, va_A X H.size q → A0 q := by
  intro q h
  rcases h with ⟨k, e, h⟩ | h
  · exact (D_l (D_r hD)).2 k (q, e) h
  · exact hA q (Nat.le_trans hS.1 h)
theorem RA_A {cI cZ : ClassId} {a : Nat → Nat} {V : Sto} {shp : List Shp} {w : Bool} {sz q : Nat} (h : RA w a shp.length sz q) : va_A (wsF cI cZ a V 0 shp) sz q := by
  rcases h with ⟨-, k, hk, rfl⟩ | h
  · refine Or.inl ⟨k, cellE cI cZ a V k shp[k], ?_⟩
    rw [wsF_at, List.getElem?_eq_getElem hk]
    simp
  · exact Or.inr h
theorem D_A {cI cZ : ClassId} {a : Nat → Nat} {V V1 : Sto} {shp : List Shp} {sz : Nat} {A : Nat → Prop} (h : va_D A (wsF cI cZ a V1 0 shp)) : va_D (va_A (wsF cI cZ a V 0 shp) sz) (wsF cI cZ a V1 0 shp) := by
  refine h.weaken (fun k q hk _ => ?_)
  rw [wsF_at] at hk
  cases hs : shp[k]? with
  | none => rw [hs] at hk; cases hk
  | some sh =>
    rw [hs] at hk
    cases hk
    exact RA_A (w := true) (Or.inl ⟨rfl, k, (List.getElem?_eq_some_iff.mp hs).1, by simp⟩)
section ZR2
variable {C : YC} {own : String} {cc : ByteArray} {nL pc k n : Nat} {rm : Room} {L : List (Nat × Value)} {st : List Value} {ws ws' : va_W}

theorem Z_lconst (hC : YF C own cc nL rm) {z : Fin 2} {v : Int64} (d : decode cc pc = .ok (.lconst z, 1)) (hv : Int64.ofNat (z : Nat) = v)
    (kk : Z C nL k n (pc + 1) L (.long v :: st) ws) : Z C nL k n pc L (st) ws := by
  obtain ⟨hx, hb, hml, hown, hts, hK, hlk, hR, hA, hk1, hk2⟩ := hC
  intro H locs ls hP hD hS hl
  exact lv_lconst hx hb d hv (kk H locs ls hP hD hS hl)

theorem Z_iload_n (hC : YF C own cc nL rm) {z : Fin 4} {i : Nat} {x : Int32} (d : decode cc pc = .ok (.iload_n z, 1)) (hi : (z : Nat) = i) (j : Nat) (hj : L[j]? = some (i, .int x))
    (kk : Z C nL k n (pc + 1) L (.int x :: st) ws) : Z C nL k n pc L (st) ws := by
  obtain ⟨hx, hb, hml, hown, hts, hK, hlk, hR, hA, hk1, hk2⟩ := hC
  intro H locs ls hP hD hS hl
  exact lv_iload_n hx hb d hi (lv_at hl j hj) (kk H locs ls hP hD hS hl)

theorem Z_iload (hC : YF C own cc nL rm) {i : Nat} {x : Int32} (d : decode cc pc = .ok (.iload i, 2)) (j : Nat) (hj : L[j]? = some (i, .int x))
    (kk : Z C nL k n (pc + 2) L (.int x :: st) ws) : Z C nL k n pc L (st) ws := by
  obtain ⟨hx, hb, hml, hown, hts, hK, hlk, hR, hA, hk1, hk2⟩ := hC
  intro H locs ls hP hD hS hl
  exact lv_iload hx hb d (lv_at hl j hj) (kk H locs ls hP hD hS hl)

theorem Z_istore_n (hC : YF C own cc nL rm) {z : Fin 4} {i : Nat} {x : Int32} {L' : List (Nat × Value)} (d : decode cc pc = .ok (.istore_n z, 1)) (hi : (z : Nat) = i) (hn : i < nL) (hL : (i, Value.int x) :: L.filter (fun q => !(q.1 == i) && !(q.1 + 1 == i && q.2.category == 2)) = L')
    (kk : Z C nL k n (pc + 1) L' (st) ws) : Z C nL k n pc L (.int x :: st) ws := by
  obtain ⟨hx, hb, hml, hown, hts, hK, hlk, hR, hA, hk1, hk2⟩ := hC
  intro H locs ls hP hD hS hl
  exact lv_istore_n hx hb d hi hl hn hL (fun ls hl => (kk H locs ls hP hD hS hl))

theorem Z_istore (hC : YF C own cc nL rm) {i : Nat} {x : Int32} {L' : List (Nat × Value)} (d : decode cc pc = .ok (.istore i, 2)) (hn : i < nL) (hL : (i, Value.int x) :: L.filter (fun q => !(q.1 == i) && !(q.1 + 1 == i && q.2.category == 2)) = L')
    (kk : Z C nL k n (pc + 2) L' (st) ws) : Z C nL k n pc L (.int x :: st) ws := by
  obtain ⟨hx, hb, hml, hown, hts, hK, hlk, hR, hA, hk1, hk2⟩ := hC
  intro H locs ls hP hD hS hl
  exact lv_istore hx hb d hl hn hL (fun ls hl => (kk H locs ls hP hD hS hl))

theorem Z_astore_n (hC : YF C own cc nL rm) {z : Fin 4} {i : Nat} {x : Nat} {L' : List (Nat × Value)} (d : decode cc pc = .ok (.astore_n z, 1)) (hi : (z : Nat) = i) (hn : i < nL) (hL : (i, Value.ref x) :: L.filter (fun q => !(q.1 == i) && !(q.1 + 1 == i && q.2.category == 2)) = L')
    (kk : Z C nL k n (pc + 1) L' (st) ws) : Z C nL k n pc L (.ref x :: st) ws := by
  obtain ⟨hx, hb, hml, hown, hts, hK, hlk, hR, hA, hk1, hk2⟩ := hC
  intro H locs ls hP hD hS hl
  exact lv_astore_n hx hb d hi hl hn hL (fun ls hl => (kk H locs ls hP hD hS hl))

theorem Z_astore (hC : YF C own cc nL rm) {i : Nat} {x : Nat} {L' : List (Nat × Value)} (d : decode cc pc = .ok (.astore i, 2)) (hn : i < nL) (hL : (i, Value.ref x) :: L.filter (fun q => !(q.1 == i) && !(q.1 + 1 == i && q.2.category == 2)) = L')
    (kk : Z C nL k n (pc + 2) L' (st) ws) : Z C nL k n pc L (.ref x :: st) ws := by
  obtain ⟨hx, hb, hml, hown, hts, hK, hlk, hR, hA, hk1, hk2⟩ := hC
  intro H locs ls hP hD hS hl
  exact lv_astore hx hb d hl hn hL (fun ls hl => (kk H locs ls hP hD hS hl))

theorem Z_iinc (hC : YF C own cc nL rm) {i : Nat} {z : Int} {x v : Int32} {L' : List (Nat × Value)} (d : decode cc pc = .ok (.iinc i z, 3)) (j : Nat) (hj : L[j]? = some (i, .int x)) (hv : x + Int32.ofInt z = v) (hn : i < nL) (hL : (i, Value.int v) :: L.filter (fun q => !(q.1 == i) && !(q.1 + 1 == i && q.2.category == 2)) = L')
    (kk : Z C nL k n (pc + 3) L' (st) ws) : Z C nL k n pc L (st) ws := by
  obtain ⟨hx, hb, hml, hown, hts, hK, hlk, hR, hA, hk1, hk2⟩ := hC
  intro H locs ls hP hD hS hl
  exact lv_iinc hx hb d hl hj hv hn hL (fun ls hl => (kk H locs ls hP hD hS hl))

theorem Z_iadd (hC : YF C own cc nL rm) {x y : Int32} (d : decode cc pc = .ok (.iadd, 1))
    (kk : Z C nL k n (pc + 1) L (.int (x + y) :: st) ws) : Z C nL k n pc L (.int y :: .int x :: st) ws := by
  obtain ⟨hx, hb, hml, hown, hts, hK, hlk, hR, hA, hk1, hk2⟩ := hC
  intro H locs ls hP hD hS hl
  exact lv_iadd hx hb d (kk H locs ls hP hD hS hl)

theorem Z_isub (hC : YF C own cc nL rm) {x y : Int32} (d : decode cc pc = .ok (.isub, 1))
    (kk : Z C nL k n (pc + 1) L (.int (x - y) :: st) ws) : Z C nL k n pc L (.int y :: .int x :: st) ws := by
  obtain ⟨hx, hb, hml, hown, hts, hK, hlk, hR, hA, hk1, hk2⟩ := hC
  intro H locs ls hP hD hS hl
  exact lv_isub hx hb d (kk H locs ls hP hD hS hl)

theorem Z_iand (hC : YF C own cc nL rm) {x y : Int32} (d : decode cc pc = .ok (.iand, 1))
    (kk : Z C nL k n (pc + 1) L (.int (x &&& y) :: st) ws) : Z C nL k n pc L (.int y :: .int x :: st) ws := by
  obtain ⟨hx, hb, hml, hown, hts, hK, hlk, hR, hA, hk1, hk2⟩ := hC
  intro H locs ls hP hD hS hl
  exact lv_iand hx hb d (kk H locs ls hP hD hS hl)

theorem Z_i2l (hC : YF C own cc nL rm) {x : Int32} (d : decode cc pc = .ok (.i2l, 1))
    (kk : Z C nL k n (pc + 1) L (.long x.toInt64 :: st) ws) : Z C nL k n pc L (.int x :: st) ws := by
  obtain ⟨hx, hb, hml, hown, hts, hK, hlk, hR, hA, hk1, hk2⟩ := hC
  intro H locs ls hP hD hS hl
  exact lv_i2l hx hb d rfl (kk H locs ls hP hD hS hl)

theorem Z_lcmp (hC : YF C own cc nL rm) {x y : Int64} (d : decode cc pc = .ok (.lcmp, 1))
    (kk : Z C nL k n (pc + 1) L (.int (lg_cmp x y) :: st) ws) : Z C nL k n pc L (.long y :: .long x :: st) ws := by
  obtain ⟨hx, hb, hml, hown, hts, hK, hlk, hR, hA, hk1, hk2⟩ := hC
  intro H locs ls hP hD hS hl
  exact W.lcmp hx hb d (kk H locs ls hP hD hS hl)

theorem Z_if_eq (hC : YF C own cc nL rm) {x : Int32} {off : Int} (tgt : Nat) (d : decode cc pc = .ok (.ifCond .eq off, 3)) (ht : (pc : Int) + off = (tgt : Int))
    (kt : x = 0 → Z C nL k n tgt L st ws) (kf : ¬ x = 0 → Z C nL k n (pc + 3) L st ws) : Z C nL k n pc L (.int x :: st) ws := by
  obtain ⟨hx, hb, hml, hown, hts, hK, hlk, hR, hA, hk1, hk2⟩ := hC
  intro H locs ls hP hD hS hl
  exact lv_if_eq hx hb d ht (fun q => kt q H locs ls hP hD hS hl) (fun q => kf q H locs ls hP hD hS hl)

theorem Z_icmp_eq (hC : YF C own cc nL rm) {x y : Int32} {off : Int} (tgt : Nat) (d : decode cc pc = .ok (.if_icmp .eq off, 3)) (ht : (pc : Int) + off = (tgt : Int))
    (kt : x = y → Z C nL k n tgt L st ws) (kf : ¬ x = y → Z C nL k n (pc + 3) L st ws) : Z C nL k n pc L (.int y :: .int x :: st) ws := by
  obtain ⟨hx, hb, hml, hown, hts, hK, hlk, hR, hA, hk1, hk2⟩ := hC
  intro H locs ls hP hD hS hl
  exact lv_icmp_eq hx hb d ht (fun q => kt q H locs ls hP hD hS hl) (fun q => kf q H locs ls hP hD hS hl)

theorem Z_if_ne (hC : YF C own cc nL rm) {x : Int32} {off : Int} (tgt : Nat) (d : decode cc pc = .ok (.ifCond .ne off, 3)) (ht : (pc : Int) + off = (tgt : Int))
    (kt : ¬ x = 0 → Z C nL k n tgt L st ws) (kf : x = 0 → Z C nL k n (pc + 3) L st ws) : Z C nL k n pc L (.int x :: st) ws := by
  obtain ⟨hx, hb, hml, hown, hts, hK, hlk, hR, hA, hk1, hk2⟩ := hC
  intro H locs ls hP hD hS hl
  exact lv_if_ne hx hb d ht (fun q => kt q H locs ls hP hD hS hl) (fun q => kf q H locs ls hP hD hS hl)

theorem Z_icmp_ne (hC : YF C own cc nL rm) {x y : Int32} {off : Int} (tgt : Nat) (d : decode cc pc = .ok (.if_icmp .ne off, 3)) (ht : (pc : Int) + off = (tgt : Int))
    (kt : ¬ x = y → Z C nL k n tgt L st ws) (kf : x = y → Z C nL k n (pc + 3) L st ws) : Z C nL k n pc L (.int y :: .int x :: st) ws := by
  obtain ⟨hx, hb, hml, hown, hts, hK, hlk, hR, hA, hk1, hk2⟩ := hC
  intro H locs ls hP hD hS hl
  exact lv_icmp_ne hx hb d ht (fun q => kt q H locs ls hP hD hS hl) (fun q => kf q H locs ls hP hD hS hl)

theorem Z_if_lt (hC : YF C own cc nL rm) {x : Int32} {off : Int} (tgt : Nat) (d : decode cc pc = .ok (.ifCond .lt off, 3)) (ht : (pc : Int) + off = (tgt : Int))
    (kt : x < 0 → Z C nL k n tgt L st ws) (kf : ¬ x < 0 → Z C nL k n (pc + 3) L st ws) : Z C nL k n pc L (.int x :: st) ws := by
  obtain ⟨hx, hb, hml, hown, hts, hK, hlk, hR, hA, hk1, hk2⟩ := hC
  intro H locs ls hP hD hS hl
  exact lv_if_lt hx hb d ht (fun q => kt q H locs ls hP hD hS hl) (fun q => kf q H locs ls hP hD hS hl)

theorem Z_icmp_lt (hC : YF C own cc nL rm) {x y : Int32} {off : Int} (tgt : Nat) (d : decode cc pc = .ok (.if_icmp .lt off, 3)) (ht : (pc : Int) + off = (tgt : Int))
    (kt : x < y → Z C nL k n tgt L st ws) (kf : ¬ x < y → Z C nL k n (pc + 3) L st ws) : Z C nL k n pc L (.int y :: .int x :: st) ws := by
  obtain ⟨hx, hb, hml, hown, hts, hK, hlk, hR, hA, hk1, hk2⟩ := hC
  intro H locs ls hP hD hS hl
  exact lv_icmp_lt hx hb d ht (fun q => kt q H locs ls hP hD hS hl) (fun q => kf q H locs ls hP hD hS hl)

theorem Z_if_ge (hC : YF C own cc nL rm) {x : Int32} {off : Int} (tgt : Nat) (d : decode cc pc = .ok (.ifCond .ge off, 3)) (ht : (pc : Int) + off = (tgt : Int))
    (kt : 0 ≤ x → Z C nL k n tgt L st ws) (kf : ¬ 0 ≤ x → Z C nL k n (pc + 3) L st ws) : Z C nL k n pc L (.int x :: st) ws := by
  obtain ⟨hx, hb, hml, hown, hts, hK, hlk, hR, hA, hk1, hk2⟩ := hC
  intro H locs ls hP hD hS hl
  exact lv_if_ge hx hb d ht (fun q => kt q H locs ls hP hD hS hl) (fun q => kf q H locs ls hP hD hS hl)

theorem Z_icmp_ge (hC : YF C own cc nL rm) {x y : Int32} {off : Int} (tgt : Nat) (d : decode cc pc = .ok (.if_icmp .ge off, 3)) (ht : (pc : Int) + off = (tgt : Int))
    (kt : y ≤ x → Z C nL k n tgt L st ws) (kf : ¬ y ≤ x → Z C nL k n (pc + 3) L st ws) : Z C nL k n pc L (.int y :: .int x :: st) ws := by
  obtain ⟨hx, hb, hml, hown, hts, hK, hlk, hR, hA, hk1, hk2⟩ := hC
  intro H locs ls hP hD hS hl
  exact lv_icmp_ge hx hb d ht (fun q => kt q H locs ls hP hD hS hl) (fun q => kf q H locs ls hP hD hS hl)

theorem Z_if_gt (hC : YF C own cc nL rm) {x : Int32} {off : Int} (tgt : Nat) (d : decode cc pc = .ok (.ifCond .gt off, 3)) (ht : (pc : Int) + off = (tgt : Int))
    (kt : 0 < x → Z C nL k n tgt L st ws) (kf : ¬ 0 < x → Z C nL k n (pc + 3) L st ws) : Z C nL k n pc L (.int x :: st) ws := by
  obtain ⟨hx, hb, hml, hown, hts, hK, hlk, hR, hA, hk1, hk2⟩ := hC
  intro H locs ls hP hD hS hl
  exact lv_if_gt hx hb d ht (fun q => kt q H locs ls hP hD hS hl) (fun q => kf q H locs ls hP hD hS hl)

theorem Z_icmp_gt (hC : YF C own cc nL rm) {x y : Int32} {off : Int} (tgt : Nat) (d : decode cc pc = .ok (.if_icmp .gt off, 3)) (ht : (pc : Int) + off = (tgt : Int))
    (kt : y < x → Z C nL k n tgt L st ws) (kf : ¬ y < x → Z C nL k n (pc + 3) L st ws) : Z C nL k n pc L (.int y :: .int x :: st) ws := by
  obtain ⟨hx, hb, hml, hown, hts, hK, hlk, hR, hA, hk1, hk2⟩ := hC
  intro H locs ls hP hD hS hl
  exact lv_icmp_gt hx hb d ht (fun q => kt q H locs ls hP hD hS hl) (fun q => kf q H locs ls hP hD hS hl)

theorem Z_if_le (hC : YF C own cc nL rm) {x : Int32} {off : Int} (tgt : Nat) (d : decode cc pc = .ok (.ifCond .le off, 3)) (ht : (pc : Int) + off = (tgt : Int))
    (kt : x ≤ 0 → Z C nL k n tgt L st ws) (kf : ¬ x ≤ 0 → Z C nL k n (pc + 3) L st ws) : Z C nL k n pc L (.int x :: st) ws := by
  obtain ⟨hx, hb, hml, hown, hts, hK, hlk, hR, hA, hk1, hk2⟩ := hC
  intro H locs ls hP hD hS hl
  exact lv_if_le hx hb d ht (fun q => kt q H locs ls hP hD hS hl) (fun q => kf q H locs ls hP hD hS hl)

theorem Z_icmp_le (hC : YF C own cc nL rm) {x y : Int32} {off : Int} (tgt : Nat) (d : decode cc pc = .ok (.if_icmp .le off, 3)) (ht : (pc : Int) + off = (tgt : Int))
    (kt : x ≤ y → Z C nL k n tgt L st ws) (kf : ¬ x ≤ y → Z C nL k n (pc + 3) L st ws) : Z C nL k n pc L (.int y :: .int x :: st) ws := by
  obtain ⟨hx, hb, hml, hown, hts, hK, hlk, hR, hA, hk1, hk2⟩ := hC
  intro H locs ls hP hD hS hl
  exact lv_icmp_le hx hb d ht (fun q => kt q H locs ls hP hD hS hl) (fun q => kf q H locs ls hP hD hS hl)

theorem Z_goto (hC : YF C own cc nL rm) {off : Int} (tgt : Nat) (d : decode cc pc = .ok (.goto off, 3)) (ht : (pc : Int) + off = (tgt : Int))
    (kk : Z C nL k n tgt L st ws) : Z C nL k n pc L (st) ws := by
  obtain ⟨hx, hb, hml, hown, hts, hK, hlk, hR, hA, hk1, hk2⟩ := hC
  intro H locs ls hP hD hS hl
  exact lv_goto hx hb d ht (kk H locs ls hP hD hS hl)

theorem Z_tableOut (hC : YF C own cc nL rm) {dflt lo hi : Int} {offs : Array Int} {len : Nat} {x : Int32} (tgt : Nat) (d : decode cc pc = .ok (.tableswitch dflt lo hi offs, len)) (h : x.toInt < lo ∨ hi < x.toInt) (ht : (pc : Int) + dflt = (tgt : Int))
    (kk : Z C nL k n tgt L st ws) : Z C nL k n pc L (.int x :: st) ws := by
  obtain ⟨hx, hb, hml, hown, hts, hK, hlk, hR, hA, hk1, hk2⟩ := hC
  intro H locs ls hP hD hS hl
  exact lv_tableOut hx hb d h ht (kk H locs ls hP hD hS hl)

theorem Z_tableIn (hC : YF C own cc nL rm) {dflt lo hi : Int} {offs : Array Int} {len : Nat} {x : Int32} {off : Int} (tgt : Nat) (d : decode cc pc = .ok (.tableswitch dflt lo hi offs, len)) (h1 : ¬ x.toInt < lo) (h2 : ¬ hi < x.toInt) (ho : offs[(x.toInt - lo).toNat]? = some off) (ht : (pc : Int) + off = (tgt : Int))
    (kk : Z C nL k n tgt L st ws) : Z C nL k n pc L (.int x :: st) ws := by
  obtain ⟨hx, hb, hml, hown, hts, hK, hlk, hR, hA, hk1, hk2⟩ := hC
  intro H locs ls hP hD hS hl
  exact lv_tableIn hx hb d h1 h2 ho ht (kk H locs ls hP hD hS hl)

theorem Z_subL (ks : List Nat) {L' : List (Nat × Value)} (h : lv_pick L ks = L') (kk : Z C nL k n pc L' st ws) : Z C nL k n pc L st ws := fun H locs ls hP hD hS hl => kk H locs ls hP hD hS (lv_sub hl ks h)
theorem Z_widen {k' n' : Nat} (h1 : k ≤ k') (h2 : n ≤ n') (kk : Z C nL k' n' pc L st ws) : Z C nL k n pc L st ws := fun H locs ls hP hD hS hl => W.widen h1 h2 (kk H locs ls hP hD hS hl)
/-- the row of one long -/
def outC (cJ : ClassId) (o : Nat) (f : Nat → Int64) : Nat × va_E := (o, .inl (cJ, 1, .inr (.inl f)))
theorem at_last {X : va_W} {x : Nat × va_E} : (X ++ [x])[X.length]? = some x := by rw [List.getElem?_append_right (Nat.le_refl _), Nat.sub_self]; rfl
theorem set_last {X : va_W} {x y : Nat × va_E} : (X ++ [x]).set X.length y = X ++ [y] := by
  rw [List.set_append_right _ _ (Nat.le_refl _), Nat.sub_self]
  rfl
theorem Z_last {X : va_W} {cJ : ClassId} {o : Nat} {f : Nat → Int64} {x : Int64} (hC : YF C own cc nL rm) (hJ : va_K C.D classes [(cJ, .long)] C.s) (d : decode cc pc = .ok (.lastore, 1)) (kk : ∀ f' : Nat → Int64, f' 0 = x → Z C nL k n (pc + 1) L st (X ++ [outC cJ o f'])) : Z C nL k n pc L (.long x :: .int 0 :: .ref o :: st) (X ++ [outC cJ o f]) := by
  obtain ⟨hx, hb, hml, hown, hts, hK, hlk, hR, hA, hk1, hk2⟩ := hC
  intro H locs ls hP hD hS hl
  refine va_last hx hb hJ hP hD hS X.length 0 (cA := cJ) (n := 1) (f := f) at_last rfl (ib_in (by decide)) d (fun H1 locs1 hP1 hD1 hS1 => ?_)
  rw [set_last] at hP1 hD1
  exact kk (vp_updL f (0 : Int32).toNatClampNeg x) (by simp [vp_updL]) H1 locs1 ls hP1 hD1 hS1 hl
theorem Z_lald {X : va_W} {cJ : ClassId} {o : Nat} {f : Nat → Int64} (hC : YF C own cc nL rm) (hJ : va_K C.D classes [(cJ, .long)] C.s) (d : decode cc pc = .ok (.laload, 1)) (kk : Z C nL k n (pc + 1) L (.long (f 0) :: st) (X ++ [outC cJ o f])) : Z C nL k n pc L (.int 0 :: .ref o :: st) (X ++ [outC cJ o f]) := by
  obtain ⟨hx, hb, hml, hown, hts, hK, hlk, hR, hA, hk1, hk2⟩ := hC
  intro H locs ls hP hD hS hl
  exact va_lald hx hb hJ hP X.length 0 (cA := cJ) (n := 1) (f := f) at_last rfl (ib_in (by decide)) d (kk H locs ls hP hD hS hl)
theorem Z_sald {b LL : Nat} {xs : Nat → Int32} {i : Int32} (hC : YF C own cc nL rm) (hX : va_X b LL xs C.s C.s.heap) (hbl : b < C.s.heap.size) (hbA : ¬ C.A b) (hin : vp_in i LL) (d : decode cc pc = .ok (.iaload, 1)) (kk : Z C nL k n (pc + 1) L (.int (xs i.toNatClampNeg) :: st) ws) : Z C nL k n pc L (.int i :: .ref b :: st) ws := by
  obtain ⟨hx, hb, hml, hown, hts, hK, hlk, hR, hA, hk1, hk2⟩ := hC
  intro H locs ls hP hD hS hl
  exact va_sld hx hb hX hbl hbA hS hin d (kk H locs ls hP hD hS hl)
theorem Z_slen {b LL : Nat} {xs : Nat → Int32} (hC : YF C own cc nL rm) (hX : va_X b LL xs C.s C.s.heap) (hbl : b < C.s.heap.size) (hbA : ¬ C.A b) (d : decode cc pc = .ok (.arraylength, 1)) (kk : Z C nL k n (pc + 1) L (.int (Int32.ofNat LL) :: st) ws) : Z C nL k n pc L (.ref b :: st) ws := by
  obtain ⟨hx, hb, hml, hown, hts, hK, hlk, hR, hA, hk1, hk2⟩ := hC
  intro H locs ls hP hD hS hl
  exact va_slen hx hb hX hbl hbA hS d (kk H locs ls hP hD hS hl)
variable {P S : va_W} {a : Nat → Nat} {shp : List Shp} {V V1 : Sto} {r : Int32} {idx ci N : Nat} {y : MethodName} {cc' : ByteArray} {maxL' : Nat} {rm' : Room} {As rest : List Value} {T : u_T} {fs : List (Option Nat)} {w : Bool} {ty' : FieldType}
theorem Z_recv {H : Heap} (hC : YF C own cc nL rm) (hs : shp[0]? = some (.inl (ci, fs))) (hc : classes[ci]? = some (y.cls, T, N)) (hP : va_P C.D classes (P ++ (wsF C.cI C.cZ a V 0 shp ++ S)) H) : ∃ cell : Cell, H[a 0]? = some cell ∧ cell.vm.isStatics = false ∧ C.s.vm.findClass y.cls = some cell.cls := by
  obtain ⟨hx, hb, hml, hown, hts, hK, hlk, hR, hA, hk1, hk2⟩ := hC
  refine va_recv hK (P_l (P_r hP)) (ci := ci) (q0 := 0) (fs := fvs a (V 0) 0 fs) hc ?_
  rw [wsF_at, hs]
  simp [cellE]
theorem Z_vi (hC : YF C own cc nL rm) (hM : YMi C.l C.D C.cI C.cZ a shp y cc' maxL' (some ty') rm' w (.ref (a 0) :: As) V r V1) (hs : shp[0]? = some (.inl (ci, fs))) (hc : classes[ci]? = some (y.cls, T, N)) (hm : MLb own idx y cc' maxL' (some ty') As.length) (hv : MLv y)
    (hroom : (rm'.frames + 1 ≤ rm.frames ∧ 8 + (maxL' + 11) + rm'.locals ≤ rm.locals) ∧ rm'.cells = 0 ∧ rm'.slots = 0) (hkn : k ≤ rm.cells ∧ n ≤ rm.slots) (hcat : (rest.map fun v => v.category).sum ≤ 8) (hst : st = As.reverse ++ .ref (a 0) :: rest) (d : decode cc pc = .ok (.invokevirtual idx, 3))
    (kk : Z C nL k n (pc + 3) L (.int r :: rest) (P ++ (wsF C.cI C.cZ a V1 0 shp ++ S))) : Z C nL k n pc L st (P ++ (wsF C.cI C.cZ a V 0 shp ++ S)) := by
  have hcb := Y_cbase hC hm hroom
  have hC' := hC
  obtain ⟨hx, hb, hml, hown, hts, hK, hlk, hR, hA, hk1, hk2⟩ := hC'
  subst hst
  intro H locs ls hP hD hS hl
  have hF := freeT hD hS hA
  have hFc : ∀ q, RA w a shp.length H.size q → C.A q := fun q h => hF q (RA_A h)
  refine va_calli (va_runV (As := As) (rest := rest) ⟨hx, hb, hml, hown, hts⟩ (hM H.size) ⟨hcb, hts _ hv.1, hts _ hv.2⟩ ⟨YPc_blind, Z_recv hC hs hc hP, fun U hU hW => ⟨rfl, by rw [hU], by rw [hU]; exact P_l (P_r hP), va_K.moved hW.alike hK, (D_l (D_r hD)).weaken (fun _ _ _ _ => trivial)⟩⟩ rfl rfl hl.1 rfl (lv_room hcat) d ⟨by rw [hR]; exact hkn.1, by rw [hR]; exact hkn.2⟩) hS (fun q _ h => hFc q h) hFc (fun r' u t H1 locs ht hvm hw hB hz1 hkk hS => ?_)
  subst hw
  obtain ⟨hP1, hK1, hD1⟩ := hB
  rw [ht] at hP1
  obtain ⟨hP2, hD2⟩ := joinT hP hD (fun q h1 h2 => hkk q h1 (fun z => h2 (RA_A z))) hF hP1 (D_A hD1)
  exact kk H1 locs ls hP2 hD2 hS hl
theorem Z_vv (hC : YF C own cc nL rm) (hM : YMv C.l C.D C.cI C.cZ a shp y cc' maxL' rm' w (.ref (a 0) :: As) V V1) (hs : shp[0]? = some (.inl (ci, fs))) (hc : classes[ci]? = some (y.cls, T, N)) (hm : MLb own idx y cc' maxL' none As.length) (hv : MLv y)
    (hroom : (rm'.frames + 1 ≤ rm.frames ∧ 8 + (maxL' + 11) + rm'.locals ≤ rm.locals) ∧ rm'.cells = 0 ∧ rm'.slots = 0) (hkn : k ≤ rm.cells ∧ n ≤ rm.slots) (hcat : (rest.map fun v => v.category).sum ≤ 8) (hst : st = As.reverse ++ .ref (a 0) :: rest) (d : decode cc pc = .ok (.invokevirtual idx, 3))
    (kk : Z C nL k n (pc + 3) L rest (P ++ (wsF C.cI C.cZ a V1 0 shp ++ S))) : Z C nL k n pc L st (P ++ (wsF C.cI C.cZ a V 0 shp ++ S)) := by
  have hcb := Y_cbase hC hm hroom
  have hC' := hC
  obtain ⟨hx, hb, hml, hown, hts, hK, hlk, hR, hA, hk1, hk2⟩ := hC'
  subst hst
  intro H locs ls hP hD hS hl
  have hF := freeT hD hS hA
  have hFc : ∀ q, RA w a shp.length H.size q → C.A q := fun q h => hF q (RA_A h)
  refine va_callv (va_runV (As := As) (rest := rest) ⟨hx, hb, hml, hown, hts⟩ (hM H.size) ⟨hcb, hts _ hv.1, hts _ hv.2⟩ ⟨YPc_blind, Z_recv hC hs hc hP, fun U hU hW => ⟨rfl, by rw [hU], by rw [hU]; exact P_l (P_r hP), va_K.moved hW.alike hK, (D_l (D_r hD)).weaken (fun _ _ _ _ => trivial)⟩⟩ rfl rfl hl.1 rfl (lv_room hcat) d ⟨by rw [hR]; exact hkn.1, by rw [hR]; exact hkn.2⟩) hS (fun q _ h => hFc q h) hFc (fun u t H1 locs ht hvm hw hB hz1 hkk hS => ?_)
  obtain ⟨hP1, hK1, hD1⟩ := hB
  rw [ht] at hP1
  obtain ⟨hP2, hD2⟩ := joinT hP hD (fun q h1 h2 => hkk q h1 (fun z => h2 (RA_A z))) hF hP1 (D_A hD1)
  exact kk H1 locs ls hP2 hD2 hS hl
theorem Z_viG (hC : YF C own cc nL rm) (hM : YMiG C.l C.D C.cI C.cZ a y cc' maxL' rm' (.ref (a 0) :: As) V r V1) (hs : shpC[0]? = some (.inl (ci, fs))) (hc : classes[ci]? = some (y.cls, T, N)) (hm : MLb own idx y cc' maxL' (some .int) As.length) (hv : MLv y)
    (hroom : rm'.frames + 1 ≤ rm.frames ∧ 8 + (maxL' + 11) + rm'.locals ≤ rm.locals) (hkn : k + rm'.cells ≤ rm.cells ∧ n + rm'.slots ≤ rm.slots) (hcat : (rest.map fun v => v.category).sum ≤ 8) (hst : st = As.reverse ++ .ref (a 0) :: rest) (d : decode cc pc = .ok (.invokevirtual idx, 3))
    (kk : ∀ a1 : Nat → Nat, a1 0 = a 0 → (∀ sz q, RA true a1 shpC.length sz q → sz ≤ q ∨ RA true a shpC.length sz q ∨ q = a1 14) → Z C nL (k + rm'.cells) (n + rm'.slots) (pc + 3) L (.int r :: rest) (P ++ (wsF C.cI C.cZ a1 V1 0 shpC ++ S))) : Z C nL k n pc L st (P ++ (wsF C.cI C.cZ a V 0 shpC ++ S)) := by
  have hC' := hC
  obtain ⟨hx, hb, hml, hown, hts, hK, hlk, hR, hA, hk1, hk2⟩ := hC'
  have hcb : CallB C.R C.s C.args own idx y cc' maxL' (some .int) (Cond.code y cc' maxL' (some .int) :: ALLW) rm' rm'.cells rm'.slots As.length := callB_of As.length hts (gd_code hm.1) rfl rfl rfl (hts _ hm.2.2.1) (hts _ hm.2.1) hm.2.2.2 (by rw [hR]; exact hroom)
  subst hst
  intro H locs ls hP hD hS hl
  have hF := freeT hD hS hA
  have hFc : ∀ q, RA true a shpC.length H.size q → C.A q := fun q h => hF q (RA_A h)
  refine va_calli (va_runV (As := As) (rest := rest) ⟨hx, hb, hml, hown, hts⟩ (hM H.size) ⟨hcb, hts _ hv.1, hts _ hv.2⟩ ⟨YPc_blind, Z_recv hC hs hc hP, fun U hU hW => ⟨rfl, by rw [hU], by rw [hU]; exact P_l (P_r hP), va_K.moved hW.alike hK, (D_l (D_r hD)).weaken (fun _ _ _ _ => trivial)⟩⟩ rfl rfl hl.1 rfl (lv_room hcat) d ⟨by rw [hR]; exact hkn.1, by rw [hR]; exact hkn.2⟩) hS (fun q _ h => hFc q h) hFc (fun r' u t H1 locs ht hvm hw hB hz1 hkk hS => ?_)
  subst hw
  obtain ⟨a1, h1, h2, hP1, hK1, hD1⟩ := hB
  rw [ht] at hP1
  have hD1' : va_D (va_A (wsF C.cI C.cZ a V 0 shpC) H.size) (wsF C.cI C.cZ a1 V1 0 shpC) := hD1.weaken (fun j q hj _ => by
    rw [wsF_at] at hj
    cases hs : shpC[j]? with
    | none => rw [hs] at hj; cases hj
    | some sh =>
      rw [hs] at hj
      cases hj
      show va_A _ _ (a1 (0 + j))
      rw [Nat.zero_add]
      by_cases h14 : j = 14
      · subst h14
        exact RA_A h2
      · rw [h1 j h14]
        exact RA_A (w := true) (Or.inl ⟨rfl, j, (List.getElem?_eq_some_iff.mp hs).1, rfl⟩))
  obtain ⟨hP2, hD2⟩ := joinT hP hD (fun q g1 g2 => hkk q g1 (fun z => g2 (RA_A z))) hF hP1 hD1'
  refine kk a1 (h1 0 (by decide)) (fun sz q hq => ?_) H1 locs ls hP2 hD2 hS hl
  rcases hq with ⟨-, j, hj, rfl⟩ | hq
  · by_cases h14 : j = 14
    · subst h14
      exact Or.inr (Or.inr rfl)
    · rw [h1 j h14]
      exact Or.inr (Or.inl (Or.inl ⟨rfl, j, hj, rfl⟩))
  · exact Or.inl hq
end ZR2
