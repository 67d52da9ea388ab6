/-! the memory at the start -/
def m0C (i : Nat) : Nat → Int32 := fun k => if k = 0 then 3 else if k = 2 then 4 else if k = 3 then nI (i % 4) else 0
def m0R (j : Nat) : Nat → Int32 := if j = 0 then (fun k => if k = 6 ∨ k = 7 then 3 else 0) else if j < 6 then (fun _ => 0) else if j = 6 then (fun _ => -1) else if j < 47 then (if (j - 7) % 5 = 0 then m0C ((j - 7) / 5) else if (j - 7) % 5 = 2 ∨ (j - 7) % 5 = 4 then (fun _ => -1) else fun _ => 0) else (fun k => if k = 0 then -1 else 0)
def M0 : Mm := fun r => if r = 0 then (fun _ => 0) else if r < 71 then m0R (r - 1) else if r < 141 then m0R (r - 71) else if r = 141 then (fun _ => 0) else if r = 142 then nI else if r < 563 then m0R ((r - 143) % 70) else if r = 563 then (fun _ => 0) else if r = 564 then (fun k => if k = 4 ∨ k = 5 then -1 else 0) else if r < 567 then (fun _ => 0) else if r < 709 then (if (r - 567) % 71 = 0 then (fun _ => 0) else m0R ((r - 567) % 71 - 1)) else fun _ => 0
theorem RI_of {M : Mm} {r : Nat} (h : ∀ j, j < 70 → M (r + j) = m0R j) : RI M r := by
  have g : ∀ j k, j < 70 → M (r + j) k = m0R j k := fun j k hj => by rw [h j hj]
  have gc : ∀ i x k, i < 8 → x < 5 → M (r + 7 + 5 * i + x) k = m0R (7 + 5 * i + x) k := fun i x k hi hx => by rw [show r + 7 + 5 * i + x = r + (7 + 5 * i + x) by omega]; exact g _ _ (by omega)
  refine ⟨⟨(g 0 5 (by decide)).trans rfl, (g 0 6 (by decide)).trans rfl, (g 0 7 (by decide)).trans rfl, (g 0 8 (by decide)).trans rfl, (g 0 9 (by decide)).trans rfl⟩, fun j _ => (g 4 j (by decide)).trans rfl, fun j _ => (g 6 j (by decide)).trans rfl, fun i hi => ?_, fun i hi => ?_, fun i hi => ?_⟩
  · rcases (show i = 0 ∨ i = 1 ∨ i = 2 ∨ i = 3 ∨ i = 4 ∨ i = 5 ∨ i = 6 ∨ i = 7 by omega) with rfl | rfl | rfl | rfl | rfl | rfl | rfl | rfl
    · exact ⟨⟨(gc 0 0 0 (by decide) (by decide)).trans rfl, (gc 0 0 1 (by decide) (by decide)).trans rfl, (gc 0 0 2 (by decide) (by decide)).trans rfl, (gc 0 0 3 (by decide) (by decide)).trans (by decide +kernel), (gc 0 0 4 (by decide) (by decide)).trans rfl, (gc 0 0 5 (by decide) (by decide)).trans rfl⟩, fun j _ => (gc 0 2 j (by decide) (by decide)).trans rfl, fun j _ => (gc 0 4 j (by decide) (by decide)).trans rfl⟩
    · exact ⟨⟨(gc 1 0 0 (by decide) (by decide)).trans rfl, (gc 1 0 1 (by decide) (by decide)).trans rfl, (gc 1 0 2 (by decide) (by decide)).trans rfl, (gc 1 0 3 (by decide) (by decide)).trans (by decide +kernel), (gc 1 0 4 (by decide) (by decide)).trans rfl, (gc 1 0 5 (by decide) (by decide)).trans rfl⟩, fun j _ => (gc 1 2 j (by decide) (by decide)).trans rfl, fun j _ => (gc 1 4 j (by decide) (by decide)).trans rfl⟩
    · exact ⟨⟨(gc 2 0 0 (by decide) (by decide)).trans rfl, (gc 2 0 1 (by decide) (by decide)).trans rfl, (gc 2 0 2 (by decide) (by decide)).trans rfl, (gc 2 0 3 (by decide) (by decide)).trans (by decide +kernel), (gc 2 0 4 (by decide) (by decide)).trans rfl, (gc 2 0 5 (by decide) (by decide)).trans rfl⟩, fun j _ => (gc 2 2 j (by decide) (by decide)).trans rfl, fun j _ => (gc 2 4 j (by decide) (by decide)).trans rfl⟩
    · exact ⟨⟨(gc 3 0 0 (by decide) (by decide)).trans rfl, (gc 3 0 1 (by decide) (by decide)).trans rfl, (gc 3 0 2 (by decide) (by decide)).trans rfl, (gc 3 0 3 (by decide) (by decide)).trans (by decide +kernel), (gc 3 0 4 (by decide) (by decide)).trans rfl, (gc 3 0 5 (by decide) (by decide)).trans rfl⟩, fun j _ => (gc 3 2 j (by decide) (by decide)).trans rfl, fun j _ => (gc 3 4 j (by decide) (by decide)).trans rfl⟩
    · exact ⟨⟨(gc 4 0 0 (by decide) (by decide)).trans rfl, (gc 4 0 1 (by decide) (by decide)).trans rfl, (gc 4 0 2 (by decide) (by decide)).trans rfl, (gc 4 0 3 (by decide) (by decide)).trans (by decide +kernel), (gc 4 0 4 (by decide) (by decide)).trans rfl, (gc 4 0 5 (by decide) (by decide)).trans rfl⟩, fun j _ => (gc 4 2 j (by decide) (by decide)).trans rfl, fun j _ => (gc 4 4 j (by decide) (by decide)).trans rfl⟩
    · exact ⟨⟨(gc 5 0 0 (by decide) (by decide)).trans rfl, (gc 5 0 1 (by decide) (by decide)).trans rfl, (gc 5 0 2 (by decide) (by decide)).trans rfl, (gc 5 0 3 (by decide) (by decide)).trans (by decide +kernel), (gc 5 0 4 (by decide) (by decide)).trans rfl, (gc 5 0 5 (by decide) (by decide)).trans rfl⟩, fun j _ => (gc 5 2 j (by decide) (by decide)).trans rfl, fun j _ => (gc 5 4 j (by decide) (by decide)).trans rfl⟩
    · exact ⟨⟨(gc 6 0 0 (by decide) (by decide)).trans rfl, (gc 6 0 1 (by decide) (by decide)).trans rfl, (gc 6 0 2 (by decide) (by decide)).trans rfl, (gc 6 0 3 (by decide) (by decide)).trans (by decide +kernel), (gc 6 0 4 (by decide) (by decide)).trans rfl, (gc 6 0 5 (by decide) (by decide)).trans rfl⟩, fun j _ => (gc 6 2 j (by decide) (by decide)).trans rfl, fun j _ => (gc 6 4 j (by decide) (by decide)).trans rfl⟩
    · exact ⟨⟨(gc 7 0 0 (by decide) (by decide)).trans rfl, (gc 7 0 1 (by decide) (by decide)).trans rfl, (gc 7 0 2 (by decide) (by decide)).trans rfl, (gc 7 0 3 (by decide) (by decide)).trans (by decide +kernel), (gc 7 0 4 (by decide) (by decide)).trans rfl, (gc 7 0 5 (by decide) (by decide)).trans rfl⟩, fun j _ => (gc 7 2 j (by decide) (by decide)).trans rfl, fun j _ => (gc 7 4 j (by decide) (by decide)).trans rfl⟩
  · have e : ∀ k, M (r + 47 + i) k = if k = 0 then -1 else 0 := fun k => by
      rw [show r + 47 + i = r + (47 + i) by omega, g _ _ (by omega)]
      unfold m0R
      rw [if_neg (by omega), if_neg (by omega), if_neg (by omega), if_neg (by omega)]
    exact ⟨e 0, e 1, e 2, e 3, e 4⟩
  · have e : ∀ k, M (r + 50 + i) k = if k = 0 then -1 else 0 := fun k => by
      rw [show r + 50 + i = r + (50 + i) by omega, g _ _ (by omega)]
      unfold m0R
      rw [if_neg (by omega), if_neg (by omega), if_neg (by omega), if_neg (by omega)]
    exact ⟨e 0, e 1, e 2, e 3, e 4, e 5⟩
theorem M0_1 : RI M0 1 := RI_of fun j hj => by
  unfold M0; rw [if_neg (by omega), if_pos (by omega), show 1 + j - 1 = j by omega]
theorem M0_71 : RI M0 71 := RI_of fun j hj => by
  unfold M0; rw [if_neg (by omega), if_neg (by omega), if_pos (by omega), show 71 + j - 71 = j by omega]
theorem M0_143 {i : Nat} (hi : i < 6) : RI M0 (143 + 70 * i) := RI_of fun j hj => by
  unfold M0; rw [if_neg (by omega), if_neg (by omega), if_neg (by omega), if_neg (by omega), if_neg (by omega), if_pos (by omega), show (143 + 70 * i + j - 143) % 70 = j by omega]
theorem M0_568 {i : Nat} (hi : i < 2) : RI M0 (567 + 71 * i + 1) := RI_of fun j hj => by
  unfold M0; rw [if_neg (by omega), if_neg (by omega), if_neg (by omega), if_neg (by omega), if_neg (by omega), if_neg (by omega), if_neg (by omega), if_neg (by omega), if_neg (by omega), if_pos (by omega), if_neg (by omega), show (567 + 71 * i + 1 + j - 567) % 71 - 1 = j by omega]
theorem M0_567 {i k : Nat} (hi : i < 2) : M0 (567 + 71 * i) k = 0 := by
  unfold M0; rw [if_neg (by omega), if_neg (by omega), if_neg (by omega), if_neg (by omega), if_neg (by omega), if_neg (by omega), if_neg (by omega), if_neg (by omega), if_neg (by omega), if_pos (by omega), if_pos (by omega)]
theorem M0_b : allR (fun r => !decide (shp r = 3) || (List.range 6).all (fun k => decide (k < 2) || decide (M0 r k = 0))) = true := by decide +kernel
theorem M0_7b : allR (fun r => !decide (shp r = 7) || decide (M0 r 1 = 0)) = true := by decide +kernel
theorem shp_717 {r k : Nat} (h : shp r = k) (hk : k ≠ 11) : r < 717 := by
  by_cases hr : r < 717
  · exact hr
  · exact absurd (h.symm.trans (shp_big (by omega))) hk
theorem M0_Ty : Ty M0 := by
  refine ⟨fun r hr k h1 h2 => ?_, fun r hr => ?_, ⟨by decide +kernel, by decide +kernel⟩, fun k _ => (show chr 0 from ⟨by decide +kernel, by decide +kernel⟩)⟩
  · have q := allR_spec M0_b (shp_717 hr (by decide))
    simp only [hr, decide_true, Bool.not_true, Bool.false_or] at q
    have q2 := List.all_eq_true.mp q k (List.mem_range.mpr h2)
    simp only [Bool.or_eq_true, decide_eq_true_eq] at q2
    rcases q2 with q2 | q2
    · omega
    · exact Or.inl q2
  · have q := allR_spec M0_7b (shp_717 hr (by decide))
    simp only [hr, decide_true, Bool.not_true, Bool.false_or, decide_eq_true_eq] at q
    exact Or.inl q
theorem M1_Ty : Ty (iFM M0) := Ty_int M0_Ty (by decide +kernel) (by decide +kernel) (by decide) (by decide)
/-- the state's first row -/
abbrev f0 : Nat → Int32 := fgR (upd (upd (ibR (iaR (M0 710) 8) 3) 71 3) 72 3) 768
theorem f0_r {j : Nat} (h : 172 ≤ j ∧ j < 172 + 768) : f0 j = -1 := if_pos h
theorem f0_C : ∀ c, c < 8 → iFM M0 (chP 1 c) 0 = f0 (0 + c) ∧ iFM M0 (chP 1 c) 1 = f0 (8 + c) ∧ iFM M0 (chP 1 c) 2 = f0 (16 + c) ∧ iFM M0 (chP 1 c) 3 = f0 (24 + c) ∧ iFM M0 (chP 1 c) 4 = f0 (76 + c) ∧ iFM M0 (chP 1 c) 5 = f0 (84 + c) := by decide +kernel
theorem f0_O : ∀ k, k < 3 → iFM M0 (obP 1 k) 0 = f0 (62 + k) ∧ iFM M0 (obP 1 k) 1 = f0 (56 + k) ∧ iFM M0 (obP 1 k) 2 = f0 (59 + k) ∧ iFM M0 (obP 1 k) 3 = f0 (65 + k) ∧ iFM M0 (obP 1 k) 4 = f0 (68 + k) := by decide +kernel
theorem f0_G : ∀ h, h < 24 → iFM M0 (1 + 4) h = f0 (32 + h) := by decide +kernel
theorem f0_V : ∀ c, c < 8 → ¬ f0 (16 + c) = 0 := by decide +kernel
theorem f0_W : ∀ k, k < 3 → f0 (62 + k) = -1 := by decide +kernel
theorem f0_Z : ∀ c, c < 8 → f0 (16 + c) = nI 4 ∧ f0 (24 + c) = nI (c % 4) := by decide +kernel
theorem f0_Q : ∀ c, c < 8 → f0 (76 + c) = nI 0 := by decide +kernel
theorem f0_R : ∀ c, c < 8 → ∀ t, t < 96 → iFM M0 (chP 1 c + 1 + 1) t = f0 (172 + 96 * c + t) := by
  intro c hc t ht
  rw [f0_r (by omega)]
  rcases (show c = 0 ∨ c = 1 ∨ c = 2 ∨ c = 3 ∨ c = 4 ∨ c = 5 ∨ c = 6 ∨ c = 7 by omega) with rfl | rfl | rfl | rfl | rfl | rfl | rfl | rfl <;> rfl
theorem Rel_0 : Rel (iFM M0) 1 (iFM M0 710) := by
  refine ⟨0, 3, 0, ⟨by decide, by decide +kernel, by decide, by decide, by decide +kernel, by decide, by decide +kernel, f0_V, fun k hk => Or.inl (f0_W k hk)⟩, ⟨f0_C, f0_R, fun _ _ _ h => absurd h (by omega), f0_O, f0_G, fun _ h => absurd h (by omega), by unfold rlH; decide +kernel, fun _ h => absurd h (by omega)⟩, ⟨3, by decide, by decide, by decide +kernel⟩, fun c hc => ⟨4, c % 4, by decide, by decide, by omega, (f0_Z c hc).1, (f0_Z c hc).2⟩, fun c hc j _ hj => f0_r (by omega), fun _ h => absurd h (by omega), fun c hc => ⟨0, by decide, f0_Q c hc⟩⟩
theorem INV_0 : INV (iFM M0) := by
  have e142 : iFM M0 142 = nI := rfl
  refine ⟨0, 0, Rel_0, ⟨by decide, by decide +kernel, ?_, ?_, fun _ h => absurd h (by omega)⟩, by decide +kernel, ?_, ⟨by decide, by decide +kernel, fun _ h => absurd h (by omega)⟩, by decide +kernel⟩
  · rw [e142]; intro j hj
    rw [nI_clamp (by omega)]; exact ⟨hj, rfl⟩
  · rw [e142]; intro i j hi hj h
    rw [nI_clamp (by omega), nI_clamp (by omega)] at h; exact h
  · intro s hs
    rcases (show s = 0 ∨ s = 1 by omega) with rfl | rfl
    · exact Or.inl (by decide +kernel)
    · exact Or.inl (by decide +kernel)
