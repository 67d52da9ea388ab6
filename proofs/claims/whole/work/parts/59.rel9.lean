
/-! reading the pad, on both sides: F, g the class's, f, k the reference's; the place is a, the length L -/
def PD (F f g k : Nat → Int32) (a L : Nat) : Prop := a ≤ L ∧ L ≤ 60 ∧ g 1 = nI a ∧ g 2 = nI L ∧ k 9 = nI a ∧ k 8 = nI L ∧ ∀ j, j < L → F j = f j
theorem PD_of {F f g k g2 k2 : Nat → Int32} {a b L : Nat} (h : PD F f g k a L) (hb : b ≤ L) (h1 : g2 1 = nI b) (h2 : g2 2 = g 2) (h9 : k2 9 = nI b) (h8 : k2 8 = k 8) : PD F f g2 k2 b L := ⟨hb, h.2.1, h1, h2.trans h.2.2.2.1, h9, h8.trans h.2.2.2.2.2.1, h.2.2.2.2.2.2⟩
/-- both come to the same: a place from a on; and if they succeed, S -/
def JJ (F f : Nat → Int32) (L a : Nat) (p q : PR) (S : (Nat → Int32) → (Nat → Int32) → Prop) : Prop := ∃ b, a ≤ b ∧ PD F f p.2 q.2 b L ∧ ((p.1 = true ∧ q.1 = true ∧ a < b ∧ S p.2 q.2) ∨ (p.1 = false ∧ q.1 = false))
theorem sg_in {F f g k : Nat → Int32} {a L : Nat} (h : PD F f g k a L) (ha : a < L) : sgF F g = f a := by
  obtain ⟨h1, h2, h3, h4, h5, h6, h7⟩ := h
  unfold sgF
  rw [h3, h4, if_neg (nI_pos (by omega)), if_neg (nI_ge ha (by omega)), if_neg (show ¬ 60 ≤ nI a from nI_ge (a := a) (b := 60) (by omega) (by omega)), nI_clamp (by omega)]
  exact h7 a ha
theorem sg_end {F f g k : Nat → Int32} {a L : Nat} (h : PD F f g k a L) (ha : ¬ a < L) : sgF F g = 0 := by
  obtain ⟨h1, h2, h3, h4, h5, h6, h7⟩ := h
  unfold sgF
  rw [h3, h4, if_neg (nI_pos (by omega)), if_pos (nI_le (by omega) (by omega))]
theorem at_in {F f g k : Nat → Int32} {a L : Nat} (h : PD F f g k a L) : atR f k = f a := atR_n h.2.2.2.2.1 (by have := h.1; have := h.2.1; omega)
theorem ne_in {F f g k : Nat → Int32} {a L : Nat} (h : PD F f g k a L) (ha : a < L) : ¬ k 9 = k 8 := by
  rw [h.2.2.2.2.1, h.2.2.2.2.2.1]
  exact fun z => by have := nI_inj (by have := h.2.1; omega) (by have := h.2.1; omega) z; omega
theorem eq_end {F f g k : Nat → Int32} {a L : Nat} (h : PD F f g k a L) (ha : ¬ a < L) : k 9 = k 8 := by
  rw [h.2.2.2.2.1, h.2.2.2.2.2.1, show a = L by have := h.1; omega]
theorem g_1 {F f g k : Nat → Int32} {a L : Nat} (h : PD F f g k a L) : g 1 + 1 = nI (a + 1) := by rw [h.2.2.1]; exact nI_add a 1
theorem k_1 {F f g k : Nat → Int32} {a L : Nat} (h : PD F f g k a L) : k 9 + 1 = nI (a + 1) := by rw [h.2.2.2.2.1]; exact nI_add a 1
/-- a sign that is due -/
theorem ts_ok {F f g k : Nat → Int32} {a L : Nat} {d : Int32} (h : PD F f g k a L) (ha : a < L) (hd : f a = d) : tsF F g d = (true, upd g 1 (nI (a + 1))) ∧ takesR f k d = (true, upd k 9 (nI (a + 1))) := by
  unfold tsF takesR
  rw [if_neg (by rw [h.2.2.1, h.2.2.2.1]; exact nI_ge ha (by have := h.2.1; omega)), if_pos ((sg_in h ha).trans hd), if_neg (ne_in h ha), if_pos ((at_in h).trans hd), g_1 h, k_1 h]
  exact ⟨rfl, rfl⟩
theorem ts_no {F f g k : Nat → Int32} {a L : Nat} {d : Int32} (h : PD F f g k a L) (hd : ¬ (a < L ∧ f a = d)) : tsF F g d = (false, g) ∧ takesR f k d = (false, k) := by
  unfold tsF takesR
  by_cases ha : a < L
  · rw [if_neg (by rw [h.2.2.1, h.2.2.2.1]; exact nI_ge ha (by have := h.2.1; omega)), if_neg (fun z => hd ⟨ha, (sg_in h ha).symm.trans z⟩), if_neg (ne_in h ha), if_neg (fun z => hd ⟨ha, (at_in h).symm.trans z⟩)]
    exact ⟨rfl, rfl⟩
  · rw [if_pos (by rw [h.2.2.1, h.2.2.2.1]; exact nI_le (by omega) (by have := h.1; have := h.2.1; omega)), if_pos (eq_end h ha)]
    exact ⟨rfl, rfl⟩
/-- a digit -/
theorem dg_of {c : Int32} (h : 0 ≤ c - 48 ∧ c - 48 ≤ 9) : ∃ d, d ≤ 9 ∧ c = nI (48 + d) := by
  obtain ⟨d, hd, e⟩ := ofk (n := 9) (by decide) h
  refine ⟨d, hd, ?_⟩
  have h1 := Int32.sub_add_cancel c 48
  rw [e] at h1
  rw [← h1, Nat.add_comm]; exact nI_add d 48
theorem dg_48 (d : Nat) : nI (48 + d) - 48 = nI d := by
  have := pk_sub (a := 48 + d) (b := 48) (by omega)
  rw [show 48 + d - 48 = d by omega] at this
  exact this
theorem dg_in {F f g k : Nat → Int32} {a L d : Nat} (h : PD F f g k a L) (ha : a < L) (hd : d ≤ 9) (e : f a = nI (48 + d)) : dgF F g = nI d := by
  unfold dgF
  rw [sg_in h ha, e, if_neg (show ¬ nI (48 + d) < 48 from nI_nlt (a := 48 + d) (b := 48) (by omega) (by omega)), if_neg (show ¬ 57 < nI (48 + d) from nI_nlt (a := 57) (b := 48 + d) (by omega) (by omega)), dg_48]
theorem dg_no {F f g k : Nat → Int32} {a L : Nat} (h : PD F f g k a L) (hd : ¬ ∃ d, d ≤ 9 ∧ a < L ∧ f a = nI (48 + d)) : dgF F g = -1 := by
  unfold dgF
  by_cases ha : a < L
  · rw [sg_in h ha]
    by_cases h1 : f a < 48
    · rw [if_pos h1]
    · rw [if_neg h1]
      by_cases h2 : 57 < f a
      · rw [if_pos h2]
      · obtain ⟨j, hj, ej⟩ := nI_of2 (x := f a) (n := 57) (M := 57) (by decide) (fun z => h1 (Int32.lt_trans z (by decide))) (Int32.not_lt.mp h2)
        have : 48 ≤ j := Decidable.byContradiction (fun w => h1 (by rw [ej]; exact nI_lt (a := j) (b := 48) (by omega) (by omega)))
        exact absurd ⟨j - 48, by omega, ha, by rw [ej]; congr 1; omega⟩ hd
  · rw [sg_end h ha, if_pos (by decide)]
theorem digR_in {F f g k : Nat → Int32} {a L d m : Nat} (h : PD F f g k a L) (ha : a < L) (hd : d ≤ 9) (e : f a = nI (48 + d)) (hm : d ≤ m) (hm9 : m ≤ 9) : digR f k (nI m) = (true, upd (upd k 10 (nI d)) 9 (nI (a + 1))) := by
  unfold digR
  rw [if_neg (ne_in h ha), at_in h, e, dg_48, if_pos ⟨nI_pos' (by omega), nI_le hm (by omega)⟩, k_1 h]
theorem digR_no {F f g k : Nat → Int32} {a L m : Nat} (h : PD F f g k a L) (hm9 : m ≤ 9) (hd : ¬ ∃ d, d ≤ 9 ∧ a < L ∧ f a = nI (48 + d) ∧ d ≤ m) : digR f k (nI m) = (false, k) := by
  unfold digR
  by_cases ha : a < L
  · rw [if_neg (ne_in h ha), at_in h, if_neg]
    intro z
    obtain ⟨d, hd9, e⟩ := dg_of ⟨z.1, Int32.le_trans z.2 (nI_le (a := m) (b := 9) hm9 (by omega))⟩
    rw [e, dg_48] at z
    exact hd ⟨d, hd9, ha, e, (nI_leI (by omega) (by omega)).mp z.2⟩
  · rw [if_pos (eq_end h ha)]
theorem td_in {g : Nat → Int32} {a d m : Nat} (h1 : g 1 = nI a) (hm : d ≤ m) (hm9 : m < 1000) : tdF g (nI d) (nI m) = (true, upd g 1 (nI (a + 1))) := by
  unfold tdF
  rw [if_pos ⟨nI_pos' (by omega), nI_le hm (by omega)⟩, h1]
  exact congrArg (fun z => (true, upd g 1 z)) (nI_add a 1)
theorem td_no {g : Nat → Int32} {d m : Nat} (hm : m < d) (hd : d < 1000) : tdF g (nI d) (nI m) = (false, g) := if_neg (fun z => by have := (nI_leI (by omega) (by omega)).mp z.2; omega)
theorem td_m1 (g : Nat → Int32) (m : Int32) : tdF g (-1) m = (false, g) := if_neg (fun z => absurd z.1 (by decide))
theorem tf_J {F f g k : Nat → Int32} {a L m : Nat} (h : PD F f g k a L) (hm : m ≤ 9) : JJ F f L a (tfF F g (nI m)) (digR f k (nI m)) (fun g2 k2 => (∃ d, d ≤ m ∧ g2 4 = nI d ∧ k2 10 = nI d) ∧ g2 3 = g 3 ∧ g2 5 = g 5 ∧ k2 11 = k 11 ∧ k2 12 = k 12 ∧ k2 13 = k 13) := by
  unfold tfF
  by_cases hd : ∃ d, d ≤ 9 ∧ a < L ∧ f a = nI (48 + d)
  · obtain ⟨d, hd9, ha, e⟩ := hd
    rw [dg_in h ha hd9 e]
    by_cases hdm : d ≤ m
    · rw [td_in (g := upd g 4 (nI d)) h.2.2.1 hdm (by omega), digR_in h ha hd9 e hdm hm]
      exact ⟨a + 1, by omega, PD_of h (by omega) rfl rfl rfl rfl, Or.inl ⟨rfl, rfl, by omega, ⟨d, hdm, rfl, rfl⟩, rfl, rfl, rfl, rfl, rfl⟩⟩
    · rw [td_no (by omega) (by omega), digR_no h hm (fun z => by
        obtain ⟨d2, h1, h2, h3, h4⟩ := z
        have := nI_inj (by omega) (by omega) (e.symm.trans h3)
        omega)]
      exact ⟨a, Nat.le_refl _, PD_of h h.1 h.2.2.1 rfl h.2.2.2.2.1 rfl, Or.inr ⟨rfl, rfl⟩⟩
  · rw [dg_no h hd, td_m1, digR_no h hm (fun z => by obtain ⟨d2, h1, h2, h3, h4⟩ := z; exact hd ⟨d2, h1, h2, h3⟩)]
    exact ⟨a, Nat.le_refl _, PD_of h h.1 h.2.2.1 rfl h.2.2.2.2.1 rfl, Or.inr ⟨rfl, rfl⟩⟩
theorem t2_J {F f g k : Nat → Int32} {a L m : Nat} (h : PD F f g k a L) (hm : m ≤ 9) : JJ F f L a (t2F F g (nI m)) (digR f k (nI m)) (fun g2 k2 => (∃ d, d ≤ m ∧ g2 5 = nI d ∧ k2 10 = nI d) ∧ g2 3 = g 3 ∧ g2 4 = g 4 ∧ k2 11 = k 11 ∧ k2 12 = k 12 ∧ k2 13 = k 13) := by
  unfold t2F
  by_cases hd : ∃ d, d ≤ 9 ∧ a < L ∧ f a = nI (48 + d)
  · obtain ⟨d, hd9, ha, e⟩ := hd
    rw [dg_in h ha hd9 e]
    by_cases hdm : d ≤ m
    · rw [td_in (g := upd g 5 (nI d)) h.2.2.1 hdm (by omega), digR_in h ha hd9 e hdm hm]
      exact ⟨a + 1, by omega, PD_of h (by omega) rfl rfl rfl rfl, Or.inl ⟨rfl, rfl, by omega, ⟨d, hdm, rfl, rfl⟩, rfl, rfl, rfl, rfl, rfl⟩⟩
    · rw [td_no (by omega) (by omega), digR_no h hm (fun z => by
        obtain ⟨d2, h1, h2, h3, h4⟩ := z
        have := nI_inj (by omega) (by omega) (e.symm.trans h3)
        omega)]
      exact ⟨a, Nat.le_refl _, PD_of h h.1 h.2.2.1 rfl h.2.2.2.2.1 rfl, Or.inr ⟨rfl, rfl⟩⟩
  · rw [dg_no h hd, td_m1, digR_no h hm (fun z => by obtain ⟨d2, h1, h2, h3, h4⟩ := z; exact hd ⟨d2, h1, h2, h3⟩)]
    exact ⟨a, Nat.le_refl _, PD_of h h.1 h.2.2.1 rfl h.2.2.2.2.1 rfl, Or.inr ⟨rfl, rfl⟩⟩
theorem ts_J {F f g k : Nat → Int32} {a L : Nat} (h : PD F f g k a L) (d : Int32) : JJ F f L a (tsF F g d) (takesR f k d) (fun g2 k2 => g2 3 = g 3 ∧ g2 4 = g 4 ∧ g2 5 = g 5 ∧ k2 10 = k 10 ∧ k2 11 = k 11 ∧ k2 12 = k 12 ∧ k2 13 = k 13) := by
  by_cases hd : a < L ∧ f a = d
  · obtain ⟨e1, e2⟩ := ts_ok h hd.1 hd.2
    rw [e1, e2]
    exact ⟨a + 1, by omega, PD_of h (by have := hd.1; omega) rfl rfl rfl rfl, Or.inl ⟨rfl, rfl, by omega, rfl, rfl, rfl, rfl, rfl, rfl, rfl⟩⟩
  · obtain ⟨e1, e2⟩ := ts_no h hd
    rw [e1, e2]
    exact ⟨a, Nat.le_refl _, h, Or.inr ⟨rfl, rfl⟩⟩
theorem andF_t {p : PR} {n : (Nat → Int32) → PR} (h : p.1 = true) : andF p n = n p.2 := if_pos h
theorem andF_f {p : PR} {n : (Nat → Int32) → PR} (h : p.1 = false) : andF p n = (false, p.2) := if_neg (by rw [h]; exact Bool.false_ne_true)
/-- two digits -/
theorem pair_J {F f g k : Nat → Int32} {a L m o : Nat} (h : PD F f g k a L) (hm : m ≤ 9) (ho : o ≤ 9) : JJ F f L a (andF (tfF F g (nI m)) (fun g => t2F F g (nI o))) (pairR f k (nI m) (nI o)) (fun g2 k2 => (∃ d, d ≤ m ∧ g2 4 = nI d ∧ k2 12 = nI d) ∧ (∃ d, d ≤ o ∧ g2 5 = nI d ∧ k2 13 = nI d) ∧ g2 3 = g 3 ∧ k2 11 = k 11) := by
  obtain ⟨b, hb, hP, hS⟩ := tf_J h hm
  unfold pairR
  rcases hS with ⟨p1, q1, hab, ⟨d, hd, e4, e10⟩, e3, e5, e11, e12, e13⟩ | ⟨p1, q1⟩
  · rw [andF_t p1, if_pos q1]
    have hP2 : PD F f (tfF F g (nI m)).2 (prG (digR f k (nI m))) b L := PD_of hP hP.1 hP.2.2.1 rfl hP.2.2.2.2.1 rfl
    obtain ⟨c, hc, hP3, hS2⟩ := t2_J hP2 ho
    rcases hS2 with ⟨p2, q2, hbc, ⟨d2, hd2, f5, f10⟩, f3, f4, f11, f12, f13⟩ | ⟨p2, q2⟩
    · refine ⟨c, by omega, PD_of hP3 hP3.1 hP3.2.2.1 rfl hP3.2.2.2.2.1 rfl, Or.inl ⟨p2, q2, by omega, ⟨d, hd, f4.trans e4, ?_⟩, ⟨d2, hd2, f5, f10⟩, f3.trans e3, f11.trans e11⟩⟩
      exact f12.trans e10
    · exact ⟨c, by omega, PD_of hP3 hP3.1 hP3.2.2.1 rfl hP3.2.2.2.2.1 rfl, Or.inr ⟨p2, q2⟩⟩
  · rw [andF_f p1, if_neg (by rw [q1]; exact Bool.false_ne_true)]
    exact ⟨b, hb, PD_of hP hP.1 hP.2.2.1 rfl hP.2.2.2.2.1 rfl, Or.inr ⟨rfl, rfl⟩⟩
/-- a number of one or two digits -/
theorem upC_in {F f g k : Nat → Int32} {a L d x m i : Nat} (h : PD F f g k a L) (ha : a < L) (hd : d ≤ 9) (e : f a = nI (48 + d)) (hx : k 10 = nI x) (hx2 : x < 100) (hm : m < 1000) (hi : i < 100) : upC f k (nI m) i ↔ (i = 0 ∨ 0 < x) ∧ 10 * x + d ≤ m := by
  have e1 : 10 * k 10 + atR f k - 48 = nI (10 * x + d) := by
    rw [hx, at_in h, e, show (10 : Int32) * nI x = nI (10 * x) from pk_mul 10 x, nI_add, show 10 * x + (48 + d) = 48 + (10 * x + d) by omega, dg_48]
  unfold upC
  rw [e1, at_in h, e, hx, h.2.2.2.2.1, h.2.2.2.2.2.1]
  have q1 : nI a < nI L := nI_lt ha (by have := h.2.1; omega)
  have q2 : (48 : Int32) ≤ nI (48 + d) ∧ nI (48 + d) ≤ 57 := ⟨nI_le (a := 48) (b := 48 + d) (by omega) (by omega), nI_le (a := 48 + d) (b := 57) (by omega) (by omega)⟩
  have q3 : nI i = 0 ↔ i = 0 := nI_eq (a := i) (b := 0) (by omega) (by omega)
  have q4 : (0 : Int32) < nI x ↔ 0 < x := nI_ltI (a := 0) (b := x) (by omega) (by omega)
  have q5 : nI (10 * x + d) ≤ nI m ↔ 10 * x + d ≤ m := nI_leI (by omega) (by omega)
  rw [q3, q4, q5]
  exact ⟨fun z => z.2.2, fun z => ⟨q1, q2, z⟩⟩
theorem upC_no {F f g k : Nat → Int32} {a L i : Nat} {m : Int32} (h : PD F f g k a L) (hd : ¬ ∃ d, d ≤ 9 ∧ a < L ∧ f a = nI (48 + d)) : ¬ upC f k m i := by
  intro z
  have hl := h.1
  have hL := h.2.1
  have ha : a < L := (nI_ltI (by omega) (by omega)).mp (by rw [← h.2.2.2.2.1, ← h.2.2.2.2.2.1]; exact z.1)
  have z2 := z.2.1
  rw [at_in h] at z2
  obtain ⟨j, hj, ej⟩ := nI_of2 (x := f a) (n := 57) (M := 57) (by decide) (fun w => absurd (Int32.lt_of_le_of_lt z2.1 w) (by decide)) z2.2
  have : 48 ≤ j := (nI_leI (a := 48) (b := j) (by omega) (by omega)).mp (by rw [← ej]; exact z2.1)
  exact hd ⟨j - 48, by omega, ha, by rw [ej]; congr 1; omega⟩
theorem upS_in {F f g k : Nat → Int32} {a L d x : Nat} (h : PD F f g k a L) (e : f a = nI (48 + d)) (hx : k 10 = nI x) : upS f k = upd (upd k 10 (nI (10 * x + d))) 9 (nI (a + 1)) := by
  unfold upS
  rw [hx, at_in h, e, show (10 : Int32) * nI x = nI (10 * x) from pk_mul 10 x, nI_add, show 10 * x + (48 + d) = 48 + (10 * x + d) by omega, dg_48, k_1 h]
theorem tn_J {F f g k : Nat → Int32} {a L m : Nat} (h : PD F f g k a L) (hm : 9 ≤ m) (hm2 : m < 100) : JJ F f L a (tnF F g (nI m)) (upP f k (nI m)) (fun g2 k2 => (∃ x, x ≤ m ∧ g2 4 = nI x ∧ k2 10 = nI x) ∧ g2 3 = g 3 ∧ g2 5 = g 5 ∧ k2 11 = k 11 ∧ k2 12 = k 12 ∧ k2 13 = k 13) := by
  have h0 : PD F f g (upd k 10 0) a L := PD_of h h.1 h.2.2.1 rfl h.2.2.2.2.1 rfl
  unfold tnF upP
  by_cases hd : ∃ d, d ≤ 9 ∧ a < L ∧ f a = nI (48 + d)
  · obtain ⟨d, hd9, ha, e⟩ := hd
    have eT : tfF F g 9 = (true, upd (upd g 4 (nI d)) 1 (nI (a + 1))) := by
      unfold tfF
      rw [dg_in h ha hd9 e]; exact td_in (g := upd g 4 (nI d)) (m := 9) h.2.2.1 hd9 (by omega)
    rw [andF_t (by rw [eT]), eT]
    have c0 : upC f (upd k 10 0) (nI m) 0 := (upC_in (x := 0) h0 ha hd9 e rfl (by omega) (by omega) (by omega)).mpr ⟨Or.inl rfl, by omega⟩
    rw [upE_yes c0, upS_in (x := 0) h0 e rfl, show 10 * 0 + d = d by omega]
    have h1 : PD F f (upd (upd g 4 (nI d)) 1 (nI (a + 1))) (upd (upd (upd k 10 0) 10 (nI d)) 9 (nI (a + 1))) (a + 1) L := PD_of h (by omega) rfl rfl rfl rfl
    show JJ F f L a (tnG F (upd (upd g 4 (nI d)) 1 (nI (a + 1))) (nI m)) _ _
    generalize hg1 : upd (upd g 4 (nI d)) 1 (nI (a + 1)) = g1 at h1 ⊢
    generalize hk1 : upd (upd (upd k 10 0) 10 (nI d)) 9 (nI (a + 1)) = k1 at h1 ⊢
    have g14 : g1 4 = nI d := by rw [← hg1]; rfl
    have k110 : k1 10 = nI d := by rw [← hk1]; rfl
    have fr : g1 3 = g 3 ∧ g1 5 = g 5 ∧ k1 11 = k 11 ∧ k1 12 = k 12 ∧ k1 13 = k 13 := by rw [← hg1, ← hk1]; exact ⟨rfl, rfl, rfl, rfl, rfl⟩
    by_cases hd2 : ∃ d, d ≤ 9 ∧ a + 1 < L ∧ f (a + 1) = nI (48 + d)
    · obtain ⟨d2, hd29, ha2, e2⟩ := hd2
      have ic := upC_in (i := 1) (m := m) h1 ha2 hd29 e2 k110 (by omega) (by omega) (by omega)
      by_cases hw : 0 < d ∧ 10 * d + d2 ≤ m
      · have eG : tnG F g1 (nI m) = (true, upd (upd g1 4 (nI (10 * d + d2))) 1 (nI (a + 1 + 1))) := by
          unfold tnG
          rw [dg_in h1 ha2 hd29 e2, g14, show (10 : Int32) * nI d = nI (10 * d) from pk_mul 10 d, nI_add, if_pos ⟨(nI_ltI (a := 0) (b := d) (by omega) (by omega)).mpr hw.1, nI_ne1 (by omega), nI_le hw.2 (by omega)⟩, g_1 h1]
        rw [eG, upE_yes (ic.mpr ⟨Or.inr hw.1, hw.2⟩), upS_in h1 e2 k110]
        have h2 : PD F f (upd (upd g1 4 (nI (10 * d + d2))) 1 (nI (a + 1 + 1))) (upd (upd k1 10 (nI (10 * d + d2))) 9 (nI (a + 1 + 1))) (a + 1 + 1) L := PD_of h1 (by omega) rfl rfl rfl rfl
        have stop : ¬ upC f (upd (upd k1 10 (nI (10 * d + d2))) 9 (nI (a + 1 + 1))) (nI m) 2 := by
          by_cases hd3 : ∃ d, d ≤ 9 ∧ a + 1 + 1 < L ∧ f (a + 1 + 1) = nI (48 + d)
          · obtain ⟨d3, hd39, ha3, e3⟩ := hd3
            intro z
            have := (upC_in (i := 2) (m := m) (x := 10 * d + d2) h2 ha3 hd39 e3 rfl (by omega) (by omega) (by omega)).mp z
            omega
          · exact upC_no h2 hd3
        rw [upE_no (by omega) stop]
        exact ⟨a + 1 + 1, by omega, h2, Or.inl ⟨rfl, rfl, by omega, ⟨10 * d + d2, hw.2, rfl, rfl⟩, fr.1, fr.2.1, fr.2.2.1, fr.2.2.2.1, fr.2.2.2.2⟩⟩
      · have eG : tnG F g1 (nI m) = (true, g1) := by
          unfold tnG
          rw [dg_in h1 ha2 hd29 e2, g14, show (10 : Int32) * nI d = nI (10 * d) from pk_mul 10 d, nI_add, if_neg]
          exact fun z => hw ⟨(nI_ltI (a := 0) (b := d) (by omega) (by omega)).mp z.1, (nI_leI (by omega) (by omega)).mp z.2.2⟩
        rw [eG, upE_no (by omega) (fun z => hw ⟨(ic.mp z).1.resolve_left (by omega), (ic.mp z).2⟩)]
        exact ⟨a + 1, by omega, h1, Or.inl ⟨rfl, rfl, by omega, ⟨d, by omega, g14, k110⟩, fr.1, fr.2.1, fr.2.2.1, fr.2.2.2.1, fr.2.2.2.2⟩⟩
    · have eG : tnG F g1 (nI m) = (true, g1) := by
        unfold tnG
        rw [dg_no h1 hd2, if_neg (fun z => z.2.1 rfl)]
      rw [eG, upE_no (by omega) (upC_no h1 hd2)]
      exact ⟨a + 1, by omega, h1, Or.inl ⟨rfl, rfl, by omega, ⟨d, by omega, g14, k110⟩, fr.1, fr.2.1, fr.2.2.1, fr.2.2.2.1, fr.2.2.2.2⟩⟩
  · have eT : tfF F g 9 = (false, upd g 4 (-1)) := by
      unfold tfF
      rw [dg_no h hd, td_m1]
    rw [andF_f (by rw [eT]), eT, upE_no (by omega) (upC_no h0 hd)]
    exact ⟨a, Nat.le_refl _, PD_of h h.1 h.2.2.1 rfl h.2.2.2.2.1 rfl, Or.inr ⟨rfl, rfl⟩⟩
/-- ticks -/
theorem tt_J {F f g k : Nat → Int32} {a L : Nat} (h : PD F f g k a L) : (ttF F g).1 = true ∧ (ptD f k).1 = true ∧ ∃ b, a ≤ b ∧ PD F f (ttF F g).2 (ptD f k).2 b L ∧ (∃ x, x < 100 ∧ (ttF F g).2 4 = nI x ∧ (ptD f k).2 12 = nI x) ∧ (ttF F g).2 3 = g 3 ∧ (ptD f k).2 11 = k 11 := by
  have hl := h.1
  have hL := h.2.1
  unfold ttF ptD
  by_cases hd : ∃ d, d ≤ 9 ∧ a < L ∧ f a = nI (48 + d)
  · obtain ⟨d, hd9, ha, e⟩ := hd
    rw [dg_in h ha hd9 e]
    by_cases h0 : 0 < d
    · have eo : oneR f k = nI (10 * d) := by
        unfold oneR
        rw [at_in h, e, h.2.2.2.2.1, h.2.2.2.2.2.1, if_pos ⟨nI_lt ha (by omega), nI_le (a := 49) (b := 48 + d) (by omega) (by omega), nI_le (a := 48 + d) (b := 57) (by omega) (by omega)⟩, dg_48]; exact pk_mul 10 d
      rw [if_pos (show 0 < nI d from (nI_ltI (a := 0) (b := d) (by omega) (by omega)).mpr h0), eo, if_pos (show 1 < nI (10 * d) from (nI_ltI (a := 1) (b := 10 * d) (by omega) (by omega)).mpr (by omega)), show (10 : Int32) * nI d = nI (10 * d) from pk_mul 10 d, g_1 h, k_1 h]
      exact ⟨rfl, rfl, a + 1, by omega, PD_of h (by omega) rfl rfl rfl rfl, ⟨10 * d, by omega, rfl, rfl⟩, rfl, rfl⟩
    · have eo : oneR f k = 1 := by
        unfold oneR
        rw [at_in h, e, if_neg]
        intro z
        have := (nI_leI (a := 49) (b := 48 + d) (by omega) (by omega)).mp z.2.1
        omega
      rw [if_neg (show ¬ 0 < nI d from fun z => h0 ((nI_ltI (a := 0) (b := d) (by omega) (by omega)).mp z)), eo, if_neg (by decide), Int32.add_zero]
      exact ⟨rfl, rfl, a, by omega, PD_of h hl h.2.2.1 rfl h.2.2.2.2.1 rfl, ⟨1, by omega, rfl, rfl⟩, rfl, rfl⟩
  · have eo : oneR f k = 1 := by
      unfold oneR
      rw [at_in h, if_neg]
      intro z
      obtain ⟨j, hj, ej⟩ := nI_of2 (x := f a) (n := 57) (M := 57) (by decide) (fun w => absurd (Int32.lt_of_le_of_lt z.2.1 w) (by decide)) z.2.2
      have h49 : 49 ≤ j := (nI_leI (a := 49) (b := j) (by omega) (by omega)).mp (by rw [← ej]; exact z.2.1)
      have ha : a < L := (nI_ltI (by omega) (by omega)).mp (by rw [← h.2.2.2.2.1, ← h.2.2.2.2.2.1]; exact z.1)
      exact hd ⟨j - 48, by omega, ha, by rw [ej]; congr 1; omega⟩
    rw [dg_no h hd, if_neg (by decide), eo, if_neg (by decide), Int32.add_zero]
    exact ⟨rfl, rfl, a, by omega, PD_of h hl h.2.2.1 rfl h.2.2.2.2.1 rfl, ⟨1, by omega, rfl, rfl⟩, rfl, rfl⟩
/-- what a part that was read tells, on both sides -/
def OKF (g k : Nat → Int32) : Prop := (k 11 = 46 ∨ k 11 = 97 ∨ k 11 = 100 ∨ k 11 = 102 ∨ k 11 = 103 ∨ k 11 = 111 ∨ k 11 = 114) ∧ g 3 = k 11 ∧ g 4 = k 12 ∧ (k 11 = 100 ∨ k 11 = 102 ∨ k 11 = 103 ∨ k 11 = 111 → g 5 = k 13) ∧ (k 11 = 111 → 0 ≤ k 13 ∧ k 13 ≤ 7) ∧ ∃ x, x < 1000 ∧ k 12 = nI x ∧ (k 11 = 111 ∨ k 11 = 114 → x < 3) ∧ (k 11 = 102 ∨ k 11 = 100 → x < 8) ∧ (k 11 = 103 → x < 24) ∧ (k 11 = 97 → x < 20)
