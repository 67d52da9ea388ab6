/-! the calls that change, by the row f -/
theorem i_asc (a b c : Int32) : a + c - b = a - b + c := by
  rw [Int32.sub_eq_add_neg, Int32.sub_eq_add_neg, Int32.add_assoc, Int32.add_comm c, ← Int32.add_assoc]
theorem i_sac (a b c : Int32) : a - (b + c) = a - b - c := by
  have h : a - b - c + (b + c) = a := by rw [Int32.add_comm b c, ← Int32.add_assoc, Int32.sub_add_cancel, Int32.sub_add_cancel]
  have h2 := Int32.add_sub_cancel (a - b - c) (b + c)
  rw [h] at h2
  exact h2
theorem i_s0 (x : Int32) : x - 0 = x := by
  have h := Int32.sub_add_cancel x 0
  rw [Int32.add_zero] at h
  exact h
theorem finR_congr {f g : Nat → Int32} (x : Int32) : ∀ n, (∀ e, e < n → g (92 + e) = f (92 + e) ∧ g (112 + e) = f (112 + e) ∧ g (132 + e) = f (132 + e)) → finR g x n = finR f x n := by
  intro n
  induction n with
  | zero => intro _; rfl
  | succ n ih =>
    intro h
    obtain ⟨h1, h2, h3⟩ := h n (by omega)
    show finR g x n + (if g (92 + n) = x ∧ g (132 + n) < 2 then g (112 + n) else 0) = finR f x n + (if f (92 + n) = x ∧ f (132 + n) < 2 then f (112 + n) else 0)
    rw [ih (fun e he => h e (by omega)), h1, h2, h3]
theorem AC_of {f g : Nat → Int32} {n : Nat} (hn : n ≤ 20) (h : ∀ j, 76 ≤ j ∧ j < 172 → g j = f j) (ac : AC f n) : AC g n := fun c hc => by
  rw [h _ (by omega), h _ (by omega), ac c hc]
  exact (finR_congr _ n (fun e he => ⟨h _ (by omega), h _ (by omega), h _ (by omega)⟩)).symm
theorem AC_gt {g : Nat → Int32} {t p j c : Nat} (hj : j < 20) (hc : c < 8) (ac : AC g j) : AC (gtR g t p j c) (j + 1) := fun d hd => by
  have e1 : finR (gtR g t p j c) (nI d) j = finR g (nI d) j := finR_congr _ j (fun e he => ⟨gt_o (by omega) (by omega) (by omega) (by omega) (by omega) (by omega), gt_o (by omega) (by omega) (by omega) (by omega) (by omega) (by omega), gt_o (by omega) (by omega) (by omega) (by omega) (by omega) (by omega)⟩)
  show _ = finR (gtR g t p j c) (nI d) j + (if gtR g t p j c (92 + j) = nI d ∧ gtR g t p j c (132 + j) < 2 then gtR g t p j c (112 + j) else 0)
  rw [e1, gt_92 hj hc, gt_132 hj hc, gt_112 hj hc, gt_o (j := 84 + d) (by omega) (by omega) (by omega) (by omega) (by omega) (by omega), ← ac d hd]
  by_cases h : d = c
  · subst h
    rw [gt_76 hj hd, if_pos ⟨rfl, by decide⟩, i_asc]
  · rw [gt_o (j := 76 + d) (by omega) (by omega) (by omega) (by omega) (by omega) (by omega), if_neg (fun z => h (nI_inj (by omega) (by omega) z.1).symm), Int32.add_zero]
theorem gn_run {f : Nat → Int32} {t p n : Nat} (hv : RV f t p n) (ac : AC f n) : ∀ k, k ≤ 8 → ∃ j, RV (gnI f t p k) t p j ∧ AC (gnI f t p k) j ∧ ∀ x, x < 75 ∨ 172 ≤ x → gnI f t p k x = f x := by
  intro k
  induction k with
  | zero => intro _; exact ⟨n, hv, ac, fun _ _ => rfl⟩
  | succ k ih =>
    intro hk
    obtain ⟨j, h1, h2, h3⟩ := ih (by omega)
    show ∃ j, RV (gnR (gnI f t p k) t p k) t p j ∧ AC (gnR (gnI f t p k) t p k) j ∧ ∀ x, x < 75 ∨ 172 ≤ x → gnR (gnI f t p k) t p k x = f x
    generalize gnI f t p k = g at h1 h2 h3 ⊢
    have h75 := h1.2.2.2.2.2.2.1
    have hj20 := h1.2.2.2.2.2.1
    unfold gnR
    by_cases hx : g 75 < 20 ∧ nI (upR (rgR g k) (g 71) (t + 1)) = g 72
    · have hj : j < 20 := (nI_ltI (a := j) (b := 20) (by omega) (by omega)).mp (by rw [← h75]; exact hx.1)
      rw [if_pos hx, h75, nI_clamp (by omega)]
      exact ⟨j + 1, gtR_RV hj h1, AC_gt hj (by omega) h2, fun x hx => (gt_o (by omega) (by omega) (by omega) (by omega) (by omega) (by omega)).trans (h3 x hx)⟩
    · rw [if_neg hx]
      exact ⟨j, h1, h2, h3⟩
/-- greys and biases are as they may be -/
def GB (f : Nat → Int32) : Prop := (∀ h, h < 24 → ∃ d, d ≤ 4 ∧ f (32 + h) = nI d) ∧ ∀ e, e < 3 → ∃ d, d ≤ 2 ∧ f (56 + e) = nI d - 1
theorem GB_of {f g : Nat → Int32} (h : ∀ j, 32 ≤ j ∧ j < 59 → g j = f j) (b : GB f) : GB g := ⟨fun k hk => by rw [h _ (by omega)]; exact b.1 k hk, fun e he => by rw [h _ (by omega)]; exact b.2 e he⟩
theorem AC_tick {f : Nat → Int32} {t p n n2 : Nat} (hv : RV f t p n) (ac : AC f n) (gb : GB f) (h75 : tkR f t p 75 = nI n2) (hn2 : n2 ≤ 20) : AC (tkR f t p) n2 ∧ GB (tkR f t p) := by
  have hv3 : RV (f3R f t) t p n := RV_ti (by omega) (RV_wa (by omega) (RV_nd hv))
  have ac3 : AC (f3R f t) n := AC_of hv.2.2.2.2.2.1 (fun j hj => f3_lo (by omega)) ac
  obtain ⟨j, h1, h2, h3⟩ := gn_run hv3 ac3 8 (by omega)
  have e : tkR f t p = goR (gnI (f3R f t) t p 8) := rfl
  rw [e] at h75 ⊢
  have hj : j = n2 := nI_inj (by have := h1.2.2.2.2.2.1; omega) (by omega) (h1.2.2.2.2.2.2.1.symm.trans ((goR_o (by omega)).symm.trans h75))
  subst hj
  exact ⟨AC_of hn2 (fun x hx => goR_o (by omega)) h2, GB_of (fun x hx => (goR_o (by omega)).trans ((h3 x (by omega)).trans (f3_lo (by omega)))) gb⟩
theorem da_o {f : Nat → Int32} {e c j : Nat} (h1 : j ≠ 132 + e) (h2 : j ≠ 84 + c) : daR f e c j = f j := (upd_ne _ _ h2).trans (upd_ne _ _ h1)
theorem da_132 {f : Nat → Int32} {e c : Nat} (he : e < 20) (hc : c < 8) : daR f e c (132 + e) = if f (152 + e) < 2 then 2 else 1 := (upd_ne _ _ (by omega)).trans (upd_at _ _ _)
theorem da_84 {f : Nat → Int32} {e c : Nat} (he : e < 20) (hc : c < 8) : daR f e c (84 + c) = f (84 + c) + (if f (152 + e) < 2 then f (112 + e) else 0) := (upd_at _ _ _).trans (by rw [upd_ne _ _ (by omega)])
theorem fin_da {f : Nat → Int32} {e c : Nat} (he : e < 20) (hc : c < 8) (h92 : f (92 + e) = nI c) (h0 : f (132 + e) = 0) : ∀ m, m ≤ 20 → finR (daR f e c) (nI c) m = finR f (nI c) m - (if e < m ∧ f (152 + e) < 2 then f (112 + e) else 0) := by
  intro m
  induction m with
  | zero => intro _; rw [if_neg (by omega), i_s0]; rfl
  | succ m ih =>
    intro hm
    show finR (daR f e c) (nI c) m + (if daR f e c (92 + m) = nI c ∧ daR f e c (132 + m) < 2 then daR f e c (112 + m) else 0) = finR f (nI c) m + (if f (92 + m) = nI c ∧ f (132 + m) < 2 then f (112 + m) else 0) - _
    rw [ih (by omega), da_o (j := 92 + m) (by omega) (by omega), da_o (j := 112 + m) (by omega) (by omega)]
    by_cases h : m = e
    · subst h
      rw [da_132 he hc, h92, h0]
      have e1 : (if nI c = nI c ∧ (0 : Int32) < 2 then f (112 + m) else 0) = f (112 + m) := if_pos ⟨rfl, by decide⟩
      have e2 : (if m < m ∧ f (152 + m) < 2 then f (112 + m) else 0) = 0 := if_neg (by omega)
      rw [e1, e2, i_s0]
      by_cases hu : f (152 + m) < 2
      · have e3 : (if m < m + 1 ∧ f (152 + m) < 2 then f (112 + m) else 0) = f (112 + m) := if_pos ⟨by omega, hu⟩
        have e4 : (if nI c = nI c ∧ (if f (152 + m) < 2 then (2 : Int32) else 1) < 2 then f (112 + m) else 0) = 0 := by rw [if_pos hu]; exact if_neg (fun z => absurd z.2 (by decide))
        rw [e3, e4, Int32.add_zero, Int32.add_sub_cancel]
      · have e3 : (if m < m + 1 ∧ f (152 + m) < 2 then f (112 + m) else 0) = 0 := if_neg (fun z => hu z.2)
        have e4 : (if nI c = nI c ∧ (if f (152 + m) < 2 then (2 : Int32) else 1) < 2 then f (112 + m) else 0) = f (112 + m) := by rw [if_neg hu]; exact if_pos ⟨rfl, by decide⟩
        rw [e3, e4, i_s0]
    · rw [da_o (j := 132 + m) (by omega) (by omega)]
      have hi : (e < m + 1 ∧ f (152 + e) < 2) ↔ (e < m ∧ f (152 + e) < 2) := ⟨fun z => ⟨by omega, z.2⟩, fun z => ⟨by omega, z.2⟩⟩
      rw [if_iff hi, i_asc]
theorem fin_dn {f : Nat → Int32} {e c d : Nat} (he : e < 20) (hc : c < 8) (hd : d < 8) (h92 : f (92 + e) = nI c) (hcd : ¬ d = c) : ∀ m, m ≤ 20 → finR (daR f e c) (nI d) m = finR f (nI d) m := by
  intro m
  induction m with
  | zero => intro _; rfl
  | succ m ih =>
    intro hm
    show finR (daR f e c) (nI d) m + (if daR f e c (92 + m) = nI d ∧ daR f e c (132 + m) < 2 then daR f e c (112 + m) else 0) = finR f (nI d) m + (if f (92 + m) = nI d ∧ f (132 + m) < 2 then f (112 + m) else 0)
    rw [ih (by omega), da_o (j := 92 + m) (by omega) (by omega), da_o (j := 112 + m) (by omega) (by omega)]
    by_cases h : m = e
    · subst h
      rw [h92, if_neg (fun z => hcd (nI_inj (by omega) (by omega) z.1).symm), if_neg (fun z => hcd (nI_inj (by omega) (by omega) z.1).symm)]
    · rw [da_o (j := 132 + m) (by omega) (by omega)]
theorem AC_da {f : Nat → Int32} {e c n : Nat} (hn : n ≤ 20) (he : e < n) (hc : c < 8) (h92 : f (92 + e) = nI c) (h0 : f (132 + e) = 0) (ac : AC f n) : AC (daR f e c) n := fun d hd => by
  by_cases h : d = c
  · subst h
    rw [da_o (j := 76 + d) (by omega) (by omega), da_84 (by omega) hd, fin_da (by omega) hd h92 h0 n hn, i_sac, ac d hd]
    have hi : f (152 + e) < 2 ↔ (e < n ∧ f (152 + e) < 2) := ⟨fun z => ⟨he, z⟩, fun z => z.2⟩
    rw [if_iff hi]
  · rw [da_o (j := 76 + d) (by omega) (by omega), da_o (j := 84 + d) (by omega) (by omega), fin_dn (by omega) hc hd h92 h n hn, ac d hd]

