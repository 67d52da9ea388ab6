theorem takes_1 {f g : Nat → Int32} {x : Int32} (h : (takesR f g x).1 = true) : (takesR f g x).2 9 = g 9 + 1 := by
  unfold takesR at *
  by_cases h1 : g 9 = g 8
  · rw [if_pos h1] at h; exact absurd h Bool.false_ne_true
  · rw [if_neg h1] at *
    by_cases h2 : atR f g = x
    · rw [if_pos h2]; rfl
    · rw [if_neg h2] at h; exact absurd h Bool.false_ne_true
theorem prG_AL2 {e : PR} (h : AL e.2) : AL (prG e) := AL_of h rfl rfl
theorem pairR_AL {f g : Nat → Int32} {m o : Int32} (r : AL g) : AL (pairR f g m o).2 := by
  unfold pairR
  split
  · exact AL_of (digR_AL (prG_AL r) : AL (digR f (prG (digR f g m)) o).2) rfl rfl
  · exact AL_of (prG_AL r) rfl rfl
theorem ptG_AL {f g : Nat → Int32} (r : AL g) : AL (ptG f g).2 := by
  unfold ptG
  have h1 : AL (prG (upP f g 23)) := prG_AL2 (upP_AL r)
  split
  · split
    · exact AL_of (digR_AL (takesR_AL h1)) rfl rfl
    · exact AL_of (takesR_AL h1) rfl rfl
  · exact AL_of h1 rfl rfl
theorem ptD_AL {f g : Nat → Int32} (r : AL g) : AL (ptD f g).2 := by
  by_cases h : 1 < oneR f g
  · obtain ⟨a, L, h1, h2, h3, h4⟩ := r
    have hl : g 9 < g 8 := by
      by_cases q : g 9 < g 8
      · exact q
      · have e : oneR f g = 1 := if_neg (fun z => q z.1)
        rw [e] at h; exact absurd h (by decide)
    have hl2 : a < L := (nI_ltI (by omega) (by omega)).mp (by rw [← h3, ← h4]; exact hl)
    refine AL_up hl2 h2 h3 h4 ?_ rfl
    show g 9 + (if 1 < oneR f g then 1 else 0) = g 9 + 1
    rw [if_pos h]
  · refine AL_of r ?_ rfl
    show g 9 + (if 1 < oneR f g then 1 else 0) = g 9
    rw [if_neg h]; exact Int32.add_zero _
theorem partR_AL {f g : Nat → Int32} (r : AL g) : AL (partR f g).2 := by
  unfold partR
  by_cases h : g 9 = g 8
  · rw [if_pos h]; exact r
  · rw [if_neg h]
    have h1 : AL (g1R f g) := by
      obtain ⟨a, L, q1, q2, q3, q4⟩ := r
      exact AL_up (AL_lt q1 q2 q3 q4 h) q2 q3 q4 rfl rfl
    unfold partS
    split
    · exact ptD_AL h1
    · split
      · exact prG_AL2 (upP_AL h1)
      · split
        · exact pairR_AL h1
        · split
          · exact pairR_AL h1
          · split
            · exact ptG_AL h1
            · split
              · exact pairR_AL h1
              · split
                · exact prG_AL2 (digR_AL h1)
                · refine AL_of r ?_ rfl
                  show g 9 + 1 - 1 = g 9
                  exact Int32.add_sub_cancel _ _
/-- the first place where the text is not as told -/
def faE (f : Nat → Int32) : Nat → (Nat → Int32) → Int32 × (Nat → Int32)
  | 0, g => (0, g)
  | n + 1, g => if (partR f g).1 = true then (if (takesR f (partR f g).2 59).1 = true then faE f n (takesR f (partR f g).2 59).2 else (if (takesR f (partR f g).2 59).2 9 < (takesR f (partR f g).2 59).2 8 then (takesR f (partR f g).2 59).2 9 else -1, (takesR f (partR f g).2 59).2)) else ((partR f g).2 9, (partR f g).2)
def faG (f g : Nat → Int32) : Nat → Nat → Int32
  | 0 => upd g 9 0
  | i + 1 => (takesR f (partR f (faG f g i)).2 59).2
theorem part_60 {f g : Nat → Int32} {b : Nat} (r : AL g) (e : g 9 = nI b) (hb : 60 ≤ b) (hb3 : b < 2 ^ 31) : ¬ (partR f g).1 = true := by
  obtain ⟨a, L, q1, q2, q3, q4⟩ := r
  have h : g 9 = g 8 := by
    have e2 : nI a = nI b := q3.symm.trans e
    by_cases hb2 : b < 2 ^ 31
    · have := nI_inj (by omega) hb2 e2
      rw [q3, q4, show a = L by omega]
    · exact absurd hb2 (by omega)
  unfold partR
  rw [if_pos h]; exact Bool.false_ne_true
