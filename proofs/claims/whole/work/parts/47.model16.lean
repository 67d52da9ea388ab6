/-- the place does not fall -/
def UpP (g h : Nat → Int32) : Prop := ∀ a, g 9 = nI a → ∃ b, a ≤ b ∧ h 9 = nI b
theorem UpP_eq {g h : Nat → Int32} (e : h 9 = g 9) : UpP g h := fun a ea => ⟨a, Nat.le_refl _, e.trans ea⟩
theorem UpP_1 {g h : Nat → Int32} (e : h 9 = g 9 + 1) : UpP g h := fun a ea => ⟨a + 1, by omega, by rw [e, ea]; exact nI_add a 1⟩
theorem UpP_t {g h k : Nat → Int32} (p : UpP g h) (q : UpP h k) : UpP g k := fun a ea => by
  obtain ⟨b, hb, eb⟩ := p a ea
  obtain ⟨c, hc, ec⟩ := q b eb
  exact ⟨c, by omega, ec⟩
theorem digR_Up (f g : Nat → Int32) (m : Int32) : UpP g (digR f g m).2 := by
  unfold digR
  split
  · exact UpP_eq rfl
  · split
    · exact UpP_1 rfl
    · exact UpP_eq rfl
theorem takesR_Up (f g : Nat → Int32) (m : Int32) : UpP g (takesR f g m).2 := by
  unfold takesR
  split
  · exact UpP_eq rfl
  · split
    · exact UpP_1 rfl
    · exact UpP_eq rfl
theorem upE_Up (f : Nat → Int32) (m : Int32) : ∀ n i g, UpP g (upE f m n i g).2
  | 0, _, _ => UpP_eq rfl
  | n + 1, i, g => by
    unfold upE
    split
    · exact UpP_t (UpP_1 rfl : UpP g (upS f g)) (upE_Up f m n (i + 1) _)
    · exact UpP_eq rfl
theorem upP_Up (f g : Nat → Int32) (m : Int32) : UpP g (upP f g m).2 := UpP_t (UpP_eq rfl : UpP g (upd g 10 0)) (upE_Up f m 61 0 _)
theorem pairR_Up (f g : Nat → Int32) (m o : Int32) : UpP g (pairR f g m o).2 := by
  unfold pairR
  split
  · exact UpP_t (digR_Up f g m) (UpP_t (UpP_eq rfl : UpP (digR f g m).2 (prG (digR f g m))) (UpP_t (digR_Up f (prG (digR f g m)) o) (UpP_eq rfl)))
  · exact UpP_t (digR_Up f g m) (UpP_eq rfl)
theorem ptG_Up (f g : Nat → Int32) : UpP g (ptG f g).2 := by
  unfold ptG
  split
  · split
    · exact UpP_t (upP_Up f g 23) (UpP_t (UpP_eq rfl : UpP (upP f g 23).2 (prG (upP f g 23))) (UpP_t (takesR_Up f _ 61) (UpP_t (digR_Up f _ 4) (UpP_eq rfl))))
    · exact UpP_t (upP_Up f g 23) (UpP_t (UpP_eq rfl : UpP (upP f g 23).2 (prG (upP f g 23))) (UpP_t (takesR_Up f _ 61) (UpP_eq rfl)))
  · exact UpP_t (upP_Up f g 23) (UpP_eq rfl)
theorem ptD_Up (f g : Nat → Int32) : UpP g (ptD f g).2 := by
  by_cases h : 1 < oneR f g
  · refine UpP_1 ?_
    show g 9 + (if 1 < oneR f g then 1 else 0) = g 9 + 1
    rw [if_pos h]
  · refine UpP_eq ?_
    show g 9 + (if 1 < oneR f g then 1 else 0) = g 9
    rw [if_neg h]; exact Int32.add_zero _
theorem partR_Up (f g : Nat → Int32) : UpP g (partR f g).2 := by
  unfold partR
  split
  · exact UpP_eq rfl
  · have h1 : UpP g (g1R f g) := UpP_1 rfl
    unfold partS
    split
    · exact UpP_t h1 (ptD_Up f _)
    · split
      · exact UpP_t h1 (UpP_t (upP_Up f _ 19) (UpP_eq rfl))
      · split
        · exact UpP_t h1 (pairR_Up f _ 7 2)
        · split
          · exact UpP_t h1 (pairR_Up f _ 7 9)
          · split
            · exact UpP_t h1 (ptG_Up f _)
            · split
              · exact UpP_t h1 (pairR_Up f _ 2 7)
              · split
                · exact UpP_t h1 (UpP_t (digR_Up f _ 2) (UpP_eq rfl))
                · refine UpP_eq ?_
                  show g 9 + 1 - 1 = g 9
                  exact Int32.add_sub_cancel _ _
