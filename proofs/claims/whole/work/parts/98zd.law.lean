/-! The law: every call is answered alike. -/
theorem law_step {V M : Sto} (hI : Iv V M) : LawStep Iv V M := by
  have h := hI.w
  have hr := hI.d
  have ht : ∀ k, Iv V (sw M 0 0 k) := fun k => hI.thr k
  refine ⟨fun p1 => ?_, fun p1 p2 p3 p4 => ?_, fun p1 p2 p3 => ?_, fun p1 p2 p3 p4 => ?_, fun p1 p2 p3 p4 p5 => ?_, fun p1 p2 p3 p4 p5 => ?_, fun p1 => ?_, fun p1 p2 hb => ?_, fun p1 p2 hb1 hb2 => ?_, ?_, fun p1 => ?_, fun p1 => op_fault hI p1, fun p1 => op_isIn hI p1, fun p1 => op_address hI p1, fun p1 => op_like hI p1, fun p1 p2 => op_means hI p1 p2, fun p1 => op_common hI p1, fun p1 => op_at hI p1, fun p1 => op_about hI p1⟩
  · exact op_unit h hr ht Iv.ti p1
  · exact op_section h hr ht Iv.ti p1 p2 p3 p4
  · exact op_word h hr ht Iv.ti p1 p2 p3
  · exact op_symbol h hr ht Iv.ti p1 p2 p3 p4
  · exact op_other h hr ht Iv.ti p1 p2 p3 p4 p5
  · exact op_relocation h hr ht Iv.ti p1 p2 p3 p4 p5
  · exact op_entry h hr ht Iv.ti p1
  · exact op_keep h hr ht Iv.ti p1 p2 hb
  · exact op_fold h hr Iv.ti p1 p2 hb1 hb2
  · exact op_clear h hr Iv.ti
  · exact op_link h hr ht p1
theorem iv0 : Iv V0C V0M := by
  have hw : WF V0C := by
    refine ⟨rfl, by decide, rfl, by decide, rfl, by decide, rfl, by decide, ?_, ?_, ?_, ?_, ?_, ?_, by decide, by decide, rfl, by decide, rfl, by decide, ?_, ?_, ?_, ?_, ?_, ?_, ?_, ?_, ?_, ?_, ?_, Or.inl rfl, rfl, rfl⟩
    · intro u hu; exact absurd hu (Nat.not_lt_zero _)
    · intro u hu; exact absurd hu (Nat.not_lt_zero _)
    · intro u hu; exact absurd hu (Nat.not_lt_zero _)
    · intro u hu; exact absurd hu (Nat.not_lt_zero _)
    · intro u hu; exact absurd hu (Nat.not_lt_zero _)
    · intro u hu; exact absurd hu (Nat.not_lt_zero _)
    · intro u hu; exact absurd hu (Nat.not_lt_zero _)
    · intro u v _ hu; exact absurd hu (Nat.not_lt_zero _)
    · intro u hu; exact absurd hu (Nat.not_lt_zero _)
    · intro u hu; exact absurd hu (Nat.not_lt_zero _)
    · intro u hu; exact absurd hu (Nat.not_lt_zero _)
    · intro u hu; exact absurd hu (Nat.not_lt_zero _)
    · intro u v _ hu; exact absurd hu (Nat.not_lt_zero _)
    · intro u hu; exact absurd hu (Nat.not_lt_zero _)
    · intro u hu; exact absurd hu (Nat.not_lt_zero _)
    · intro u hu; exact absurd hu (Nat.not_lt_zero _)
    · intro u hu; exact absurd hu (Nat.not_lt_zero _)
  refine ⟨hw, ⟨rfl, rfl, rfl, rfl, rfl, rfl, rfl, rfl, rfl, rfl, rfl, rfl, rfl, rfl, rfl, rfl, ?_, rfl, ?_, rfl, rfl, rfl, rfl, rfl, rfl, rfl, rfl, rfl⟩, ⟨rfl, rfl, rfl, rfl, rfl⟩, fun z => ?_⟩
  · intro k hk; exact absurd hk (Nat.not_lt_zero _)
  · intro k hk; exact absurd hk (Nat.not_lt_zero _)
  · exact absurd z (by decide)
theorem law_ok : LawOk Iv := ⟨iv0, fun _ _ h => law_step h⟩
