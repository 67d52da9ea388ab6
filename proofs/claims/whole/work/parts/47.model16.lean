/-- the place does not fall, and rises by at most k -/
def UpP (k : Nat) (g h : Nat → Int32) : Prop := ∀ a, g 9 = nI a → ∃ b, a ≤ b ∧ b ≤ a + k ∧ h 9 = nI b
theorem UpP_eq {g h : Nat → Int32} (e : h 9 = g 9) : UpP 0 g h := fun a ea => ⟨a, Nat.le_refl _, Nat.le_refl _, e.trans ea⟩
theorem UpP_1 {g h : Nat → Int32} (e : h 9 = g 9 + 1) : UpP 1 g h := fun a ea => ⟨a + 1, by omega, Nat.le_refl _, by rw [e, ea]; exact nI_add a 1⟩
theorem UpP_t {j k : Nat} {g h m : Nat → Int32} (p : UpP j g h) (q : UpP k h m) : UpP (j + k) g m := fun a ea => by
  obtain ⟨b, hb, hb2, eb⟩ := p a ea
  obtain ⟨c, hc, hc2, ec⟩ := q b eb
  exact ⟨c, by omega, by omega, ec⟩
theorem UpP_w {j k : Nat} {g h : Nat → Int32} (p : UpP j g h) (hjk : j ≤ k) : UpP k g h := fun a ea => by
  obtain ⟨b, hb, hb2, eb⟩ := p a ea
  exact ⟨b, hb, by omega, eb⟩
theorem digR_Up (f g : Nat → Int32) (m : Int32) : UpP 1 g (digR f g m).2 := by
  unfold digR
  split
  · exact UpP_w (UpP_eq rfl) (by decide)
  · split
    · exact UpP_1 rfl
    · exact UpP_w (UpP_eq rfl) (by decide)
theorem takesR_Up (f g : Nat → Int32) (m : Int32) : UpP 1 g (takesR f g m).2 := by
  unfold takesR
  split
  · exact UpP_w (UpP_eq rfl) (by decide)
  · split
    · exact UpP_1 rfl
    · exact UpP_w (UpP_eq rfl) (by decide)
theorem upE_Up (f : Nat → Int32) (m : Int32) : ∀ n i g, UpP n g (upE f m n i g).2
  | 0, _, _ => UpP_eq rfl
  | n + 1, i, g => by
    unfold upE
    split
    · exact UpP_w (UpP_t (UpP_1 rfl : UpP 1 g (upS f g)) (upE_Up f m n (i + 1) _)) (by omega)
    · exact UpP_w (UpP_eq rfl) (by omega)
theorem upP_Up (f g : Nat → Int32) (m : Int32) : UpP 61 g (upP f g m).2 := UpP_w (UpP_t (UpP_eq rfl : UpP 0 g (upd g 10 0)) (upE_Up f m 61 0 _)) (by decide)
theorem prG_Up (e : PR) : UpP 0 e.2 (prG e) := UpP_eq rfl
theorem pr2_Up (e : PR) : UpP 0 e.2 (pr2 e).2 := UpP_eq rfl
theorem pairR_Up (f g : Nat → Int32) (m o : Int32) : UpP 2 g (pairR f g m o).2 := by
  unfold pairR
  split
  · exact UpP_w (UpP_t (digR_Up f g m) (UpP_t (prG_Up _) (UpP_t (digR_Up f (prG (digR f g m)) o) (pr2_Up _)))) (by decide)
  · exact UpP_w (UpP_t (digR_Up f g m) (UpP_eq rfl)) (by decide)
theorem ptG_Up (f g : Nat → Int32) : UpP 63 g (ptG f g).2 := by
  unfold ptG
  split
  · split
    · exact UpP_w (UpP_t (upP_Up f g 23) (UpP_t (prG_Up _) (UpP_t (takesR_Up f _ 61) (UpP_t (digR_Up f _ 4) (pr2_Up _))))) (by decide)
    · exact UpP_w (UpP_t (upP_Up f g 23) (UpP_t (prG_Up _) (UpP_t (takesR_Up f _ 61) (UpP_eq rfl)))) (by decide)
  · exact UpP_w (UpP_t (upP_Up f g 23) (UpP_eq rfl)) (by decide)
theorem ptD_Up (f g : Nat → Int32) : UpP 1 g (ptD f g).2 := by
  by_cases h : 1 < oneR f g
  · refine UpP_1 ?_
    show g 9 + (if 1 < oneR f g then 1 else 0) = g 9 + 1
    rw [if_pos h]
  · refine UpP_w (UpP_eq ?_) (by decide)
    show g 9 + (if 1 < oneR f g then 1 else 0) = g 9
    rw [if_neg h]; exact Int32.add_zero _
theorem partR_Up (f g : Nat → Int32) : UpP 64 g (partR f g).2 := by
  unfold partR
  split
  · exact UpP_w (UpP_eq rfl) (by decide)
  · have h1 : UpP 1 g (g1R f g) := UpP_1 rfl
    unfold partS
    split
    · exact UpP_w (UpP_t h1 (ptD_Up f _)) (by decide)
    · split
      · exact UpP_w (UpP_t h1 (UpP_t (upP_Up f _ 19) (UpP_eq rfl))) (by decide)
      · split
        · exact UpP_w (UpP_t h1 (pairR_Up f _ 7 2)) (by decide)
        · split
          · exact UpP_w (UpP_t h1 (pairR_Up f _ 7 9)) (by decide)
          · split
            · exact UpP_w (UpP_t h1 (ptG_Up f _)) (by decide)
            · split
              · exact UpP_w (UpP_t h1 (pairR_Up f _ 2 7)) (by decide)
              · split
                · exact UpP_w (UpP_t h1 (UpP_t (digR_Up f _ 2) (UpP_eq rfl))) (by decide)
                · refine UpP_w (UpP_eq ?_) (by decide)
                  show g 9 + 1 - 1 = g 9
                  exact Int32.add_sub_cancel _ _
