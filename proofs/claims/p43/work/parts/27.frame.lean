abbrev oR (r x : Nat) : Prop := x < r ∨ r + 70 ≤ x
theorem mI_lt {x : Int32} {n : Nat} (h : 0 ≤ x) (h2 : x ≤ nI n) (hn : n < 1000) : x.toNatClampNeg ≤ n := by
  obtain ⟨j, hj, rfl⟩ := nI_of (Int32.not_lt.mpr h)
  rw [nI_clamp hj]; exact (nI_leI hj (by (try simp only [chP, obP, noP] at *); omega)).mp h2
theorem nrC_o {M : Mm} {q t x : Nat} {a b : Int32} (h1 : x ≠ q + 1 + 1) (h2 : x ≠ q + 3 + 1) : nrC M q t a b x = M x := (va_up_ne _ _ h2).trans (va_up_ne _ _ h1)
theorem obsF_o {M : Mm} {r t k x : Nat} {gr : Int32} (hk : k < 3) (h : oR r x) : obsF M r t gr k x = M x := by
  by_cases hc : 0 ≤ M (obP r k) 0 ∧ M (obP r k) 0 ≤ 7
  · have h7 := mI_lt (n := 7) hc.1 hc.2 (by decide)
    have e : obsF M r t gr k = _ := if_pos hc
    rw [e, va_up_ne _ _ (by (try simp only [chP, obP, noP] at *); omega)]; exact nrC_o (by (try simp only [chP, obP, noP] at *); omega) (by (try simp only [chP, obP, noP] at *); omega)
  · rw [obsF_no hc]
theorem trF_o {M : Mm} {r t x : Nat} {gr : Int32} (h : oR r x) : ∀ k, k ≤ 3 → trF M r t gr k x = M x
  | 0, _ => rfl
  | k + 1, hk => (obsF_o (by (try simp only [chP, obP, noP] at *); omega) h).trans (trF_o h k (by (try simp only [chP, obP, noP] at *); omega))
theorem trG_o {M : Mm} {r t x : Nat} (h : oR r x) : trG M r t x = M x := (trF_o h 3 (Nat.le_refl _)).trans (va_up_ne _ _ (by (try simp only [chP, obP, noP] at *); omega))
theorem tiO_o {M : Mm} {r x : Nat} (h : oR r x) : ∀ k, k ≤ 3 → tiO M r k x = M x
  | 0, _ => rfl
  | k + 1, hk => (va_up_ne _ _ (by (try simp only [chP, obP, noP] at *); omega)).trans (tiO_o h k (by (try simp only [chP, obP, noP] at *); omega))
theorem fillF_o {M : Mm} {r q c n t p x : Nat} (h1 : x ≠ q) (h2 : x ≠ chP r c) : fillF M r q c n t p x = M x := (va_up_ne _ _ h2).trans (va_up_ne _ _ h1)
theorem gnS_o {M : Mm} {r t p c x : Nat} (hc : c < 8) (h : oR r x) : gnS M r t p c x = M x := by
  unfold gnS
  split
  · next h9 =>
    have h19 := mI_lt (n := 19) h9.2.1 h9.2.2 (by decide)
    rw [va_up_ne _ _ (by (try simp only [chP, obP, noP] at *); omega)]; exact fillF_o (by (try simp only [chP, obP, noP] at *); omega) (by (try simp only [chP, obP, noP] at *); omega)
  · rfl
theorem gnF_o {M : Mm} {r t p x : Nat} (h : oR r x) : ∀ c, c ≤ 8 → gnF M r t p c x = M x
  | 0, _ => rfl
  | c + 1, hc => (gnS_o (by (try simp only [chP, obP, noP] at *); omega) h).trans (gnF_o h c (by (try simp only [chP, obP, noP] at *); omega))
theorem clF_o {M : Mm} {r x : Nat} (h : oR r x) : ∀ c, c ≤ 8 → clF M r c x = M x
  | 0, _ => rfl
  | c + 1, hc => (va_up_ne _ _ (by (try simp only [chP, obP, noP] at *); omega)).trans (clF_o h c (by (try simp only [chP, obP, noP] at *); omega))
theorem goF_o {M : Mm} {r t x : Nat} (h : oR r x) : goF M r t x = M x := by
  unfold goF
  split
  · exact (clF_o h 8 (Nat.le_refl _)).trans (va_up_ne _ _ (by (try simp only [chP, obP, noP] at *); omega))
  · exact va_up_ne _ _ (by (try simp only [chP, obP, noP] at *); omega)
theorem ptF_o {M : Mm} {r t p x : Nat} (h : oR r x) : ptF M r t p x = M x :=
  (goF_o h).trans ((gnF_o h 8 (Nat.le_refl _)).trans ((tiO_o h 3 (Nat.le_refl _)).trans (trG_o h)))
/-- what passes on a ridge stays there -/
theorem itF_o {M : Mm} {r x : Nat} (h : oR r x) : ∀ i, itF M r i x = M x
  | 0 => rfl
  | i + 1 => (ptF_o h).trans (itF_o h i)
theorem cpR_in {M : Mm} {r q x : Nat} (h : r ≤ x ∧ x < r + 70) : cpR M r q x = M (q + (x - r)) := cpI_in (by omega)
theorem cpR_eq {M U : Mm} (h : ∀ x, oR 71 x → U x = M x) : cpR U 71 1 = cpR M 71 1 := by
  funext x
  by_cases hx : oR 71 x
  · rw [cpR_out hx, cpR_out hx, h x hx]
  · rw [cpR_in (by omega), cpR_in (by omega), h _ (by omega)]
theorem CJ_row {M U : Mm} {r q : Nat} (e : U r = M q) (h : CJ M q) : CJ U r := by
  unfold CJ CI at *
  rw [e]; exact h
theorem CJ_cp {M : Mm} {r q : Nat} (h : CJ M q) : CJ (cpR M r q) r := CJ_row (by rw [cpR_in (by omega), Nat.sub_self]; rfl) h
theorem hdM_o {M : Mm} {n x : Nat} (h1 : x ≠ 141) (h2 : x ≠ 142) : hdM M n x = M x := by
  unfold hdM
  split
  · exact (va_up_ne _ _ h1).trans (va_up_ne _ _ h2)
  · rfl
theorem recM_o {M : Mm} {n q x : Nat} (h : x < 141 ∨ 563 ≤ x) (hS : hsS (M 142)) : recM M n q x = M x := by
  have h5 : hsS (hdM M n 142) := by
    unfold hdM; split
    · exact roF_hs hS
    · exact hS
  have := (h5 (min n 5) (by omega)).1
  rw [recM, va_up_ne _ _ (by omega), cpR_out (by simp only [stP]; omega), hdM_o (by omega) (by omega)]
theorem recM_CJ {M : Mm} {n : Nat} (hS : hsS (M 142)) (h : CJ M 1) : CJ (recM M n 1) 1 := CJ_row (recM_o (by omega) hS) h
theorem of_rng {x : Int32} {n : Nat} (hn : n < 1000) (h : 1 ≤ x ∧ x ≤ nI n) : ∃ k, 1 ≤ k ∧ k ≤ n ∧ x = nI k := by
  obtain ⟨j, hj, rfl⟩ := nI_of (x := x) (fun z => absurd (Int32.lt_of_le_of_lt h.1 z) (by decide))
  exact ⟨j, (nI_leI (a := 1) (b := j) (by omega) hj).mp h.1, (nI_leI hj (by omega)).mp h.2, rfl⟩
theorem nI_min {a b : Nat} (ha : a < 1000) (hb : b < 1000) : (if nI b < nI a then nI b else nI a) = nI (min a b) := by
  by_cases h : b < a
  · rw [if_pos ((nI_ltI (by omega) (by omega)).mpr h), show min a b = b by omega]
  · rw [if_neg (fun z => h ((nI_ltI (by omega) (by omega)).mp z)), show min a b = a by omega]
theorem coF_n (x : Int64) : ∀ n i, n + i = 8 → ∀ y : Int32, coF n i x = y → 0 < y → ∃ c, c ≤ 8 ∧ y = nI c := by
  intro n
  induction n generalizing x with
  | zero =>
    intro i hi y e h
    unfold coF at e
    split at e
    · exact ⟨i, by omega, e.symm⟩
    · rw [← e] at h; exact absurd h (by decide)
  | succ n ih =>
    intro i hi y e h
    unfold coF at e
    split at e
    · split at e
      · exact ⟨i, by omega, e.symm⟩
      · rw [← e] at h; exact absurd h (by decide)
    · split at e
      · exact ih _ (i + 1) (by omega) y e h
      · rw [← e] at h; exact absurd h (by decide)
