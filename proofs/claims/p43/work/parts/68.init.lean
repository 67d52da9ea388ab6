/-! the memory at the start -/
def m0C (i : Nat) : Nat → Int32 := fun k => if k = 0 then 3 else if k = 2 then 4 else if k = 3 then nI (i % 4) else 0
def m0R (j : Nat) : Nat → Int32 := if j = 0 then (fun k => if k = 6 ∨ k = 7 then 3 else 0) else if j < 6 then (fun _ => 0) else if j = 6 then (fun _ => -1) else if j < 47 then (if (j - 7) % 5 = 0 then m0C ((j - 7) / 5) else if (j - 7) % 5 = 2 ∨ (j - 7) % 5 = 4 then (fun _ => -1) else fun _ => 0) else (fun k => if k = 0 then -1 else 0)
def M0 : Mm := fun r => if r = 0 then (fun _ => 0) else if r < 71 then m0R (r - 1) else if r < 141 then m0R (r - 71) else if r = 141 then (fun _ => 0) else if r = 142 then nI else if r < 563 then m0R ((r - 143) % 70) else if r = 563 then (fun _ => 0) else if r = 564 then (fun k => if k = 4 ∨ k = 5 then -1 else 0) else if r < 567 then (fun _ => 0) else if r < 709 then (if (r - 567) % 71 = 0 then (fun _ => 0) else m0R ((r - 567) % 71 - 1)) else fun _ => 0
theorem RI_of {M : Mm} {r : Nat} (h : ∀ j, j < 70 → M (r + j) = m0R j) : RI M r := by
  have g : ∀ j k, j < 70 → M (r + j) k = m0R j k := fun j k hj => by rw [h j hj]
  have gc : ∀ i x k, i < 8 → x < 5 → M (r + 7 + 5 * i + x) k = m0R (7 + 5 * i + x) k := fun i x k hi hx => by rw [show r + 7 + 5 * i + x = r + (7 + 5 * i + x) by omega]; exact g _ _ (by omega)
  refine ⟨⟨(g 0 5 (by decide)).trans rfl, (g 0 6 (by decide)).trans rfl, (g 0 7 (by decide)).trans rfl, (g 0 8 (by decide)).trans rfl, (g 0 9 (by decide)).trans rfl⟩, fun j _ => (g 4 j (by decide)).trans rfl, fun j _ => (g 6 j (by decide)).trans rfl, fun i hi => ?_, fun i hi => ?_, fun i hi => ?_⟩
  · rcases (show i = 0 ∨ i = 1 ∨ i = 2 ∨ i = 3 ∨ i = 4 ∨ i = 5 ∨ i = 6 ∨ i = 7 by omega) with rfl | rfl | rfl | rfl | rfl | rfl | rfl | rfl
    · exact ⟨⟨(gc 0 0 0 (by decide) (by decide)).trans rfl, (gc 0 0 1 (by decide) (by decide)).trans rfl, (gc 0 0 2 (by decide) (by decide)).trans rfl, (gc 0 0 3 (by decide) (by decide)).trans (by decide +kernel), (gc 0 0 4 (by decide) (by decide)).trans rfl, (gc 0 0 5 (by decide) (by decide)).trans rfl⟩, fun j _ => (gc 0 2 j (by decide) (by decide)).trans rfl, fun j _ => (gc 0 4 j (by decide) (by decide)).trans rfl⟩
    · exact ⟨⟨(gc 1 0 0 (by decide) (by decide)).trans rfl, (gc 1 0 1 (by decide) (by decide)).trans rfl, (gc 1 0 2 (by decide) (by decide)).trans rfl, (gc 1 0 3 (by decide) (by decide)).trans (by decide +kernel), (gc 1 0 4 (by decide) (by decide)).trans rfl, (gc 1 0 5 (by decide) (by decide)).trans rfl⟩, fun j _ => (gc 1 2 j (by decide) (by decide)).trans rfl, fun j _ => (gc 1 4 j (by decide) (by decide)).trans rfl⟩
    · exact ⟨⟨(gc 2 0 0 (by decide) (by decide)).trans rfl, (gc 2 0 1 (by decide) (by decide)).trans rfl, (gc 2 0 2 (by decide) (by decide)).trans rfl, (gc 2 0 3 (by decide) (by decide)).trans (by decide +kernel), (gc 2 0 4 (by decide) (by decide)).trans rfl, (gc 2 0 5 (by decide) (by decide)).trans rfl⟩, fun j _ => (gc 2 2 j (by decide) (by decide)).trans rfl, fun j _ => (gc 2 4 j (by decide) (by decide)).trans rfl⟩
    · exact ⟨⟨(gc 3 0 0 (by decide) (by decide)).trans rfl, (gc 3 0 1 (by decide) (by decide)).trans rfl, (gc 3 0 2 (by decide) (by decide)).trans rfl, (gc 3 0 3 (by decide) (by decide)).trans (by decide +kernel), (gc 3 0 4 (by decide) (by decide)).trans rfl, (gc 3 0 5 (by decide) (by decide)).trans rfl⟩, fun j _ => (gc 3 2 j (by decide) (by decide)).trans rfl, fun j _ => (gc 3 4 j (by decide) (by decide)).trans rfl⟩
    · exact ⟨⟨(gc 4 0 0 (by decide) (by decide)).trans rfl, (gc 4 0 1 (by decide) (by decide)).trans rfl, (gc 4 0 2 (by decide) (by decide)).trans rfl, (gc 4 0 3 (by decide) (by decide)).trans (by decide +kernel), (gc 4 0 4 (by decide) (by decide)).trans rfl, (gc 4 0 5 (by decide) (by decide)).trans rfl⟩, fun j _ => (gc 4 2 j (by decide) (by decide)).trans rfl, fun j _ => (gc 4 4 j (by decide) (by decide)).trans rfl⟩
    · exact ⟨⟨(gc 5 0 0 (by decide) (by decide)).trans rfl, (gc 5 0 1 (by decide) (by decide)).trans rfl, (gc 5 0 2 (by decide) (by decide)).trans rfl, (gc 5 0 3 (by decide) (by decide)).trans (by decide +kernel), (gc 5 0 4 (by decide) (by decide)).trans rfl, (gc 5 0 5 (by decide) (by decide)).trans rfl⟩, fun j _ => (gc 5 2 j (by decide) (by decide)).trans rfl, fun j _ => (gc 5 4 j (by decide) (by decide)).trans rfl⟩
    · exact ⟨⟨(gc 6 0 0 (by decide) (by decide)).trans rfl, (gc 6 0 1 (by decide) (by decide)).trans rfl, (gc 6 0 2 (by decide) (by decide)).trans rfl, (gc 6 0 3 (by decide) (by decide)).trans (by decide +kernel), (gc 6 0 4 (by decide) (by decide)).trans rfl, (gc 6 0 5 (by decide) (by decide)).trans rfl⟩, fun j _ => (gc 6 2 j (by decide) (by decide)).trans rfl, fun j _ => (gc 6 4 j (by decide) (by decide)).trans rfl⟩
    · exact ⟨⟨(gc 7 0 0 (by decide) (by decide)).trans rfl, (gc 7 0 1 (by decide) (by decide)).trans rfl, (gc 7 0 2 (by decide) (by decide)).trans rfl, (gc 7 0 3 (by decide) (by decide)).trans (by decide +kernel), (gc 7 0 4 (by decide) (by decide)).trans rfl, (gc 7 0 5 (by decide) (by decide)).trans rfl⟩, fun j _ => (gc 7 2 j (by decide) (by decide)).trans rfl, fun j _ => (gc 7 4 j (by decide) (by decide)).trans rfl⟩
  · have e : ∀ k, M (r + 47 + i) k = if k = 0 then -1 else 0 := fun k => by
      rw [show r + 47 + i = r + (47 + i) by omega, g _ _ (by omega)]
      unfold m0R
      rw [if_neg (by omega), if_neg (by omega), if_neg (by omega), if_neg (by omega)]
    exact ⟨e 0, e 1, e 2, e 3, e 4⟩
  · have e : ∀ k, M (r + 50 + i) k = if k = 0 then -1 else 0 := fun k => by
      rw [show r + 50 + i = r + (50 + i) by omega, g _ _ (by omega)]
      unfold m0R
      rw [if_neg (by omega), if_neg (by omega), if_neg (by omega), if_neg (by omega)]
    exact ⟨e 0, e 1, e 2, e 3, e 4, e 5⟩
theorem M0_1 : RI M0 1 := RI_of fun j hj => by
  unfold M0; rw [if_neg (by omega), if_pos (by omega), show 1 + j - 1 = j by omega]
theorem M0_71 : RI M0 71 := RI_of fun j hj => by
  unfold M0; rw [if_neg (by omega), if_neg (by omega), if_pos (by omega), show 71 + j - 71 = j by omega]
theorem M0_143 {i : Nat} (hi : i < 6) : RI M0 (143 + 70 * i) := RI_of fun j hj => by
  unfold M0; rw [if_neg (by omega), if_neg (by omega), if_neg (by omega), if_neg (by omega), if_neg (by omega), if_pos (by omega), show (143 + 70 * i + j - 143) % 70 = j by omega]
theorem M0_568 {i : Nat} (hi : i < 2) : RI M0 (567 + 71 * i + 1) := RI_of fun j hj => by
  unfold M0; rw [if_neg (by omega), if_neg (by omega), if_neg (by omega), if_neg (by omega), if_neg (by omega), if_neg (by omega), if_neg (by omega), if_neg (by omega), if_neg (by omega), if_pos (by omega), if_neg (by omega), show (567 + 71 * i + 1 + j - 567) % 71 - 1 = j by omega]
theorem M0_567 {i k : Nat} (hi : i < 2) : M0 (567 + 71 * i) k = 0 := by
  unfold M0; rw [if_neg (by omega), if_neg (by omega), if_neg (by omega), if_neg (by omega), if_neg (by omega), if_neg (by omega), if_neg (by omega), if_neg (by omega), if_neg (by omega), if_pos (by omega), if_pos (by omega)]
theorem M0_b : allR (fun r => !decide (shp r = 3) || (List.range 6).all (fun k => decide (k < 2) || decide (M0 r k = 0))) = true := by decide +kernel
theorem M0_7b : allR (fun r => !decide (shp r = 7) || decide (M0 r 1 = 0)) = true := by decide +kernel
theorem shp_717 {r k : Nat} (h : shp r = k) (hk : k ≠ 11) : r < 715 := by
  by_cases hr : r < 715
  · exact hr
  · exact absurd (h.symm.trans (shp_big (by omega))) hk
theorem M0_Ty : Ty M0 := by
  refine ⟨fun r hr k h1 h2 => ?_, fun r hr => ?_, ⟨by decide +kernel, by decide +kernel⟩, fun k _ => (show chr 0 from ⟨by decide +kernel, by decide +kernel⟩)⟩
  · have q := allR_spec M0_b (shp_717 hr (by decide))
    simp only [hr, decide_true, Bool.not_true, Bool.false_or] at q
    have q2 := List.all_eq_true.mp q k (List.mem_range.mpr h2)
    simp only [Bool.or_eq_true, decide_eq_true_eq] at q2
    rcases q2 with q2 | q2
    · omega
    · exact Or.inl q2
  · have q := allR_spec M0_7b (shp_717 hr (by decide))
    simp only [hr, decide_true, Bool.not_true, Bool.false_or, decide_eq_true_eq] at q
    exact Or.inl q
/-- the first row -/
def f0 : Nat → Int32 := fun j => if j < 8 then 3 else if j < 16 then 0 else if j < 24 then 4 else if j < 32 then nI ((j - 24) % 4) else if 62 ≤ j ∧ j < 65 then -1 else if j = 71 ∨ j = 72 then 3 else if 172 ≤ j ∧ j < 940 then -1 else 0
theorem f0_r {j : Nat} (h : 172 ≤ j ∧ j < 172 + 768) : f0 j = -1 := by
  unfold f0; rw [if_neg (by omega), if_neg (by omega), if_neg (by omega), if_neg (by omega), if_neg (by omega), if_neg (by omega), if_pos (by omega)]
theorem f0_C : ∀ c, c < 8 → M0 (chP 1 c) 0 = f0 (0 + c) ∧ M0 (chP 1 c) 1 = f0 (8 + c) ∧ M0 (chP 1 c) 2 = f0 (16 + c) ∧ M0 (chP 1 c) 3 = f0 (24 + c) ∧ M0 (chP 1 c) 4 = f0 (76 + c) ∧ M0 (chP 1 c) 5 = f0 (84 + c) := by decide +kernel
theorem f0_O : ∀ k, k < 3 → M0 (obP 1 k) 0 = f0 (62 + k) ∧ M0 (obP 1 k) 1 = f0 (56 + k) ∧ M0 (obP 1 k) 2 = f0 (59 + k) ∧ M0 (obP 1 k) 3 = f0 (65 + k) ∧ M0 (obP 1 k) 4 = f0 (68 + k) := by decide +kernel
theorem f0_G : ∀ h, h < 24 → M0 (1 + 4) h = f0 (32 + h) := by decide +kernel
theorem f0_V : ∀ c, c < 8 → ¬ f0 (16 + c) = 0 := by decide +kernel
theorem f0_W : ∀ k, k < 3 → f0 (62 + k) = -1 := by decide +kernel
theorem f0_Z : ∀ c, c < 8 → f0 (16 + c) = nI 4 ∧ f0 (24 + c) = nI (c % 4) := by decide +kernel
theorem f0_Q : ∀ c, c < 8 → f0 (76 + c) = nI 0 := by decide +kernel
theorem f0_R : ∀ c, c < 8 → ∀ t, t < 96 → M0 (chP 1 c + 1 + 1) t = f0 (172 + 96 * c + t) := by
  intro c hc t ht
  rw [f0_r (by omega)]
  rcases (show c = 0 ∨ c = 1 ∨ c = 2 ∨ c = 3 ∨ c = 4 ∨ c = 5 ∨ c = 6 ∨ c = 7 by omega) with rfl | rfl | rfl | rfl | rfl | rfl | rfl | rfl <;> rfl
theorem RV_0 : RV f0 0 3 0 := ⟨by decide, by decide +kernel, by decide, by decide, by decide +kernel, by decide, by decide +kernel, f0_V, fun k hk => Or.inl (f0_W k hk)⟩
theorem Rl_0 : Rl M0 1 f0 0 0 := ⟨f0_C, f0_R, fun _ _ _ h => absurd h (by omega), f0_O, f0_G, fun _ h => absurd h (by omega), by unfold rlH; decide +kernel, fun _ h => absurd h (by omega)⟩
theorem RZ_0 : RZ f0 0 0 := ⟨⟨3, by decide, by decide, by decide +kernel⟩, fun c hc => ⟨4, c % 4, by decide, by decide, by omega, (f0_Z c hc).1, (f0_Z c hc).2⟩, fun c hc j _ hj => f0_r (by omega), fun _ h => absurd h (by omega), fun c hc => ⟨0, by decide, f0_Q c hc⟩⟩
theorem AC_0 : AC f0 0 := fun c hc => (show ∀ c, c < 8 → f0 (76 + c) - f0 (84 + c) = 0 by decide +kernel) c hc
theorem GB_0 : GB f0 := ⟨fun h hh => ⟨0, by decide, (show ∀ h, h < 24 → f0 (32 + h) = nI 0 by decide +kernel) h hh⟩, fun e he => ⟨1, by decide, (show ∀ e, e < 3 → f0 (56 + e) = nI 1 - 1 by decide +kernel) e he⟩⟩
/-- the arrays of the law, as its first loop fills them -/
abbrev z0 : Nat → Int32 := fun _ => 0
def cI (k : Nat) : Nat → Int32 := fun x => if x < k then 3 else if 16 ≤ x ∧ x < 16 + k then 4 else if 24 ≤ x ∧ x < 24 + k then nI ((x - 24) % 4) else 0
def qI (k : Nat) : Nat → Int32 := fun x => if 6 ≤ x ∧ x < 9 ∧ x - 6 < k then -1 else 0
theorem cI_0 : cI 0 = z0 := by funext x; unfold cI; rw [if_neg (by omega), if_neg (by omega), if_neg (by omega)]
theorem qI_0 : qI 0 = z0 := by funext x; exact if_neg (by omega)
theorem cI_s {k : Nat} (hk : k < 8) : upd (upd (upd (cI k) k 3) (16 + k) 4) (24 + k) (nI (k % 4)) = cI (k + 1) := by
  funext x
  by_cases h1 : x = 24 + k
  · subst h1
    rw [upd_at]; unfold cI
    rw [if_neg (by omega), if_neg (by omega), if_pos (by omega), show 24 + k - 24 = k by omega]
  · rw [upd_ne _ _ h1]
    by_cases h2 : x = 16 + k
    · subst h2
      rw [upd_at]; unfold cI
      rw [if_neg (by omega), if_pos (by omega)]
    · rw [upd_ne _ _ h2]
      by_cases h3 : x = k
      · subst h3
        rw [upd_at]; unfold cI
        rw [if_pos (by omega)]
      · rw [upd_ne _ _ h3]; unfold cI
        by_cases h4 : x < k
        · rw [if_pos h4]; exact (if_pos (by omega)).symm
        · rw [if_neg h4, if_neg (show ¬ x < k + 1 by omega)]
          by_cases h5 : 16 ≤ x ∧ x < 16 + k
          · rw [if_pos h5]; exact (if_pos (by omega)).symm
          · rw [if_neg h5, if_neg (show ¬ (16 ≤ x ∧ x < 16 + (k + 1)) by omega)]
            by_cases h6 : 24 ≤ x ∧ x < 24 + k
            · rw [if_pos h6]; exact (if_pos (by omega)).symm
            · rw [if_neg h6]; exact (if_neg (by omega)).symm
theorem qI_s (k : Nat) : upd (qI k) (6 + k % 3) (-1) = qI (k + 1) := by
  funext x
  by_cases h : x = 6 + k % 3
  · rw [h, upd_at]; exact (if_pos (by omega)).symm
  · rw [upd_ne _ _ h]; unfold qI
    by_cases h2 : 6 ≤ x ∧ x < 9 ∧ x - 6 < k
    · rw [if_pos h2]; exact (if_pos (by omega)).symm
    · rw [if_neg h2]; exact (if_neg (by omega)).symm
abbrev qF : Nat → Int32 := upd (upd (qI 8) 15 3) 16 3
theorem pkM_0 (f : Nat → Int32) (y : Int32) : pkM f y 0 = 0 := rfl
theorem LAW_0 : LAW (cI 8) z0 qF z0 z0 z0 f0 0 0 := by
  refine ⟨?_, ?_, fun s h => absurd h (by omega), ?_, ?_, ?_, fun d _ s h => absurd h (by omega), fun d hd y hy => ?_, fun e h => absurd h (by omega)⟩
  · unfold LC; decide +kernel
  · unfold LG; decide +kernel
  · unfold LQ; decide +kernel
  · decide +kernel
  · decide +kernel
  · rw [pkM_0]; rfl
theorem INV_0 : INVp (lwM M0 (cI 8) z0 qF z0 z0 z0) := by
  refine ⟨f0, 0, 3, 0, 0, RV_0, lw_Rl (by decide) (by decide) Rl_0, RZ_0, AC_0, GB_0, LAW_0, lw_HQ ⟨?_, by decide, by decide +kernel⟩, lw_SLQ (fun s hs => ⟨0, by decide, ?_⟩)⟩
  · intro j hj
    show (nI j).toNatClampNeg < 6 ∧ nI (nI j).toNatClampNeg = nI j
    rw [nI_clamp (by omega)]; exact ⟨hj, rfl⟩
  · rcases (show s = 0 ∨ s = 1 by omega) with rfl | rfl <;> decide +kernel
theorem M0_law : M0 = lwM M0 (cI 0) z0 (qI 0) z0 z0 z0 := by
  rw [cI_0, qI_0]
  exact (lwM_id M0).symm
