theorem upR_congr {f g : Nat → Int32} (y : Int32) : ∀ n, (∀ j, j < n → g j = f j) → upR g y n = upR f y n := by
  intro n
  induction n with
  | zero => intro _; rfl
  | succ n ih => intro h; unfold upR; rw [h n (by omega), ih (fun j hj => h j (by omega))]
theorem upR_at (f : Nat → Int32) (y : Int32) : ∀ n j, j < upR f y n → ¬ f (n - 1 - j) < y := by
  intro n
  induction n with
  | zero => intro j h; exact absurd h (by unfold upR; omega)
  | succ n ih =>
    intro j h
    unfold upR at h
    by_cases q : f n < y
    · rw [if_pos q] at h; exact absurd h (by omega)
    · rw [if_neg q] at h
      by_cases hj : j = 0
      · rw [hj]; exact q
      · rw [show n + 1 - 1 - j = n - 1 - (j - 1) by omega]; exact ih (j - 1) (by omega)
theorem gtS_std {M : Mm} {r n : Nat} {f : Nat → Int32} (h : rlN M r f n) (c : Nat) : ∀ m, m ≤ n → gtS f c m = stdF M r (nI c) m + 1 := by
  intro m
  induction m with
  | zero => intro _; exact (Int32.zero_add 1).symm
  | succ m ih =>
    intro hm
    obtain ⟨h0, -, hd, -⟩ := h m (by omega)
    unfold gtS stdF
    rw [ih (by omega), h0]
    rcases hd with ⟨-, h5, h6⟩ | ⟨-, h5, h6⟩ | ⟨-, h5, h6⟩
    · rw [h5, h6, if_neg (by decide : ¬ (1 : Int32) = 0)]
      by_cases q : f (92 + m) = nI c
      · rw [if_pos ⟨q, by decide⟩, if_pos q]
      · rw [if_neg (fun z => q z.1), if_neg q]; exact Int32.add_zero _
    · rw [h5, h6, if_neg (by decide : ¬ (1 : Int32) = 0)]
      by_cases q : f (92 + m) = nI c
      · rw [if_pos ⟨q, by decide⟩, if_pos q]
      · rw [if_neg (fun z => q z.1), if_neg q]; exact Int32.add_zero _
    · rw [h5, h6, if_neg (fun z => absurd z.2 (by decide)), if_pos rfl]; exact Int32.add_zero _
theorem gtS_n (f : Nat → Int32) (c : Nat) : ∀ m, ∃ b, 1 ≤ b ∧ b ≤ m + 1 ∧ gtS f c m = nI b := by
  intro m
  induction m with
  | zero => exact ⟨1, by omega, by omega, rfl⟩
  | succ m ih =>
    obtain ⟨b, h1, h2, e⟩ := ih
    unfold gtS
    by_cases q : f (92 + m) = nI c ∧ f (132 + m) < 2
    · rw [if_pos q, e]; exact ⟨b + 1, by omega, by omega, nI_add b 1⟩
    · rw [if_neg q, e]; exact ⟨b, by omega, by omega, Int32.add_zero _⟩
theorem whR_congr {f g : Nat → Int32} {c s : Nat} (h : ∀ j, j = 71 ∨ 940 ≤ j → g j = f j) : ∀ i, whR g c s i = whR f c s i := by
  intro i
  induction i with
  | zero => rfl
  | succ i ih => unfold whR; rw [ih, h (1708 + (s + i)) (by omega), h (940 + 96 * c + (s + i)) (by omega), h 71 (by omega)]
theorem whR_spec (f : Nat → Int32) (c s : Nat) : ∀ i, (whR f c s i = 0 ∧ ∃ j, j < i ∧ 2 < f (1708 + (s + j))) ∨ (whR f c s i = 1 ∧ (∀ j, j < i → ¬ 2 < f (1708 + (s + j))) ∧ ∃ j, j < i ∧ f (940 + 96 * c + (s + j)) < f 71) ∨ (whR f c s i = 2 ∧ (∀ j, j < i → ¬ 2 < f (1708 + (s + j))) ∧ ∀ j, j < i → ¬ f (940 + 96 * c + (s + j)) < f 71) := by
  intro i
  induction i with
  | zero => exact Or.inr (Or.inr ⟨rfl, fun j h => absurd h (by omega), fun j h => absurd h (by omega)⟩)
  | succ i ih =>
    unfold whR
    by_cases hg : 2 < f (1708 + (s + i))
    · rw [if_pos hg]; exact Or.inl ⟨rfl, i, by omega, hg⟩
    · rw [if_neg hg]
      rcases ih with ⟨e, j, hj, h⟩ | ⟨e, h, j, hj, h2⟩ | ⟨e, h, h2⟩
      · rw [e, if_neg (fun z => absurd z.2 (by decide))]; exact Or.inl ⟨rfl, j, by omega, h⟩
      · rw [e, if_neg (fun z => absurd z.2 (by decide))]
        exact Or.inr (Or.inl ⟨rfl, fun j hj => by by_cases q : j = i; (rw [q]; exact hg); exact h j (by omega), j, by omega, h2⟩)
      · have h3 : ∀ j, j < i + 1 → ¬ 2 < f (1708 + (s + j)) := fun j hj => by by_cases q : j = i; (rw [q]; exact hg); exact h j (by omega)
        by_cases hl : f (940 + 96 * c + (s + i)) < f 71
        · rw [e, if_pos ⟨hl, rfl⟩]; exact Or.inr (Or.inl ⟨rfl, h3, i, by omega, hl⟩)
        · rw [e, if_neg (fun z => hl z.1)]; exact Or.inr (Or.inr ⟨rfl, h3, fun j hj => by by_cases q : j = i; (rw [q]; exact hl); exact h2 j (by omega)⟩)
theorem orI_spec {b : Nat → Int32} (h : ∀ j, bit (b j)) : ∀ p, (orI b p = 0 ∧ ∀ j, j < p → b j = 0) ∨ (orI b p = 1 ∧ ∃ j, j < p ∧ b j = 1) := by
  intro p
  induction p with
  | zero => exact Or.inl ⟨rfl, fun j h => absurd h (by omega)⟩
  | succ p ih =>
    unfold orI
    rcases ih with ⟨e, h0⟩ | ⟨e, j, hj, h1⟩
    · rcases h p with q | q
      · rw [e, q]; exact Or.inl ⟨by decide, fun j hj => by by_cases w : j = p; (rw [w]; exact q); exact h0 j (by omega)⟩
      · rw [e, q]; exact Or.inr ⟨by decide, p, by omega, q⟩
    · refine Or.inr ⟨?_, j, by omega, h1⟩
      rcases h p with q | q
      · rw [e, q]; decide
      · rw [e, q]; decide
theorem why_eq {M : Mm} {r t p c : Nat} {f : Nat → Int32} (hpt : p ≤ t + 1) (hK : ∀ j, j < p → M (r + 5 + 1) (t - j) = f (1708 + (t - j))) (hS : ∀ j, j < p → M (chP r c + 3 + 1) (t - j) = f (940 + 96 * c + (t - j))) (h6 : M r 6 = f 71) : whR f c (t + 1 - p) p = whI (orI (grB M r t) p) (orI (leB M r t c) p) := by
  have hg : ∀ j, j < p → 2 < f (1708 + (t + 1 - p + j)) → grB M r t (p - 1 - j) = 1 := by
    intro j hj q
    unfold grB
    rw [hK _ (by omega), show t - (p - 1 - j) = t + 1 - p + j by omega, if_neg (fun z => (i_lt3 _).mp z q)]
  have hg2 : ∀ j, j < p → grB M r t j = 1 → 2 < f (1708 + (t + 1 - p + (p - 1 - j))) := by
    intro j hj q
    unfold grB at q
    rw [hK _ hj, show t - j = t + 1 - p + (p - 1 - j) by omega] at q
    by_cases w : f (1708 + (t + 1 - p + (p - 1 - j))) < 3
    · rw [if_pos w] at q; exact absurd q (by decide)
    · exact Decidable.not_not.mp (fun z => w ((i_lt3 _).mpr z))
  have hl : ∀ j, j < p → f (940 + 96 * c + (t + 1 - p + j)) < f 71 → leB M r t c (p - 1 - j) = 1 := by
    intro j hj q
    unfold leB
    rw [hS _ (by omega), h6, show t - (p - 1 - j) = t + 1 - p + j by omega, if_neg (Int32.not_le.mpr q)]
  have hl2 : ∀ j, j < p → leB M r t c j = 1 → f (940 + 96 * c + (t + 1 - p + (p - 1 - j))) < f 71 := by
    intro j hj q
    unfold leB at q
    rw [hS _ hj, h6, show t - j = t + 1 - p + (p - 1 - j) by omega] at q
    by_cases w : f 71 ≤ f (940 + 96 * c + (t + 1 - p + (p - 1 - j)))
    · rw [if_pos w] at q; exact absurd q (by decide)
    · exact Int32.not_le.mp w
  have n01 : ¬ (0 : Int32) = 1 := by decide
  have G0 : (∃ j, j < p ∧ 2 < f (1708 + (t + 1 - p + j))) → orI (grB M r t) p = 1 := by
    rintro ⟨j, hj, q⟩
    rcases orI_spec (fun j => grB_bit M r t j) p with ⟨g1, g2⟩ | ⟨g1, -⟩
    · exact absurd ((g2 _ (by omega)).symm.trans (hg j hj q)) n01
    · exact g1
  have G1 : (∀ j, j < p → ¬ 2 < f (1708 + (t + 1 - p + j))) → orI (grB M r t) p = 0 := by
    intro q
    rcases orI_spec (fun j => grB_bit M r t j) p with ⟨g1, -⟩ | ⟨-, i, hi, g2⟩
    · exact g1
    · exact absurd (hg2 i hi g2) (q _ (by omega))
  have L0 : (∃ j, j < p ∧ f (940 + 96 * c + (t + 1 - p + j)) < f 71) → orI (leB M r t c) p = 1 := by
    rintro ⟨j, hj, q⟩
    rcases orI_spec (fun j => leB_bit M r t c j) p with ⟨g1, g2⟩ | ⟨g1, -⟩
    · exact absurd ((g2 _ (by omega)).symm.trans (hl j hj q)) n01
    · exact g1
  have L1 : (∀ j, j < p → ¬ f (940 + 96 * c + (t + 1 - p + j)) < f 71) → orI (leB M r t c) p = 0 := by
    intro q
    rcases orI_spec (fun j => leB_bit M r t c j) p with ⟨g1, -⟩ | ⟨-, i, hi, g2⟩
    · exact g1
    · exact absurd (hl2 i hi g2) (q _ (by omega))
  rcases whR_spec f c (t + 1 - p) p with ⟨e, h⟩ | ⟨e, h, h2⟩ | ⟨e, h, h2⟩
  · rw [e, G0 h]; unfold whI; rw [if_neg (by decide)]
  · rw [e, G1 h, L0 h2]; unfold whI; rw [if_pos rfl, if_neg (by decide)]
  · rw [e, G1 h, L1 h2]; unfold whI; rw [if_pos rfl, if_pos rfl]
/-- the row behind a notice -/
theorem gt_o {f : Nat → Int32} {t p n c j : Nat} (h1 : j ≠ 75) (h2 : j ≠ 76 + c) (h3 : j ≠ 92 + n) (h4 : j ≠ 112 + n) (h5 : j ≠ 132 + n) (h6 : j ≠ 152 + n) : gtR f t p n c j = f j := by
  unfold gtR gt5 gt3
  rw [upd_ne _ _ h1, upd_ne _ _ h2, upd_ne _ _ h6, upd_ne _ _ h5, upd_ne _ _ h4, upd_ne _ _ h3]
theorem gt_75 {f : Nat → Int32} {t p n c : Nat} (hn : n < 20) (hc : c < 8) : gtR f t p n c 75 = f 75 + 1 := by
  unfold gtR; rw [upd_at, gt5_lo f (by omega)]
theorem gt_76 {f : Nat → Int32} {t p n c : Nat} (hn : n < 20) (hc : c < 8) : gtR f t p n c (76 + c) = f (76 + c) + 10 * gtS f c n := by
  unfold gtR gt5; rw [upd_ne _ _ (by omega), upd_at, upd_ne _ _ (by omega), gt3_lo f (by omega)]
theorem gt_92 {f : Nat → Int32} {t p n c : Nat} (hn : n < 20) (hc : c < 8) : gtR f t p n c (92 + n) = nI c := by
  unfold gtR gt5 gt3; rw [upd_ne _ _ (by omega), upd_ne _ _ (by omega), upd_ne _ _ (by omega), upd_ne _ _ (by omega), upd_ne _ _ (by omega), upd_at]
theorem gt_112 {f : Nat → Int32} {t p n c : Nat} (hn : n < 20) (hc : c < 8) : gtR f t p n c (112 + n) = 10 * gtS f c n := by
  unfold gtR gt5 gt3; rw [upd_ne _ _ (by omega), upd_ne _ _ (by omega), upd_ne _ _ (by omega), upd_ne _ _ (by omega), upd_at]
theorem gt_132 {f : Nat → Int32} {t p n c : Nat} (hn : n < 20) (hc : c < 8) : gtR f t p n c (132 + n) = 0 := by
  unfold gtR gt5 gt3; rw [upd_ne _ _ (by omega), upd_ne _ _ (by omega), upd_ne _ _ (by omega), upd_at]
theorem gt_152 {f : Nat → Int32} {t p n c : Nat} (hn : n < 20) (hc : c < 8) : gtR f t p n c (152 + n) = whR f c (t + 1 - p) p := by
  unfold gtR gt5; rw [upd_ne _ _ (by omega), upd_ne _ _ (by omega), upd_at]
  exact whR_congr (fun j hj => by unfold gt3; rw [upd_ne _ _ (by omega), upd_ne _ _ (by omega), upd_ne _ _ (by omega)]) p
theorem RZ_gt {f : Nat → Int32} {t p n c T : Nat} (hn : n < 20) (hc : c < 8) (z : RZ f T n) : RZ (gtR f t p n c) T (n + 1) := by
  obtain ⟨z1, z2, z3, z4, z5⟩ := z
  refine ⟨by rw [gt_o (by omega) (by omega) (by omega) (by omega) (by omega) (by omega)]; exact z1, fun d hd => ?_, fun d hd j h1 h2 => ?_, fun e he => ?_, fun d hd => ?_⟩
  · rw [gt_o (by omega) (by omega) (by omega) (by omega) (by omega) (by omega), gt_o (by omega) (by omega) (by omega) (by omega) (by omega) (by omega)]; exact z2 d hd
  · rw [gt_o (by omega) (by omega) (by omega) (by omega) (by omega) (by omega)]; exact z3 d hd j h1 h2
  · by_cases q : e = n
    · rw [q, gt_92 hn hc]; exact ⟨c, hc, rfl⟩
    · rw [gt_o (by omega) (by omega) (by omega) (by omega) (by omega) (by omega)]; exact z4 e (by omega)
  · by_cases q : d = c
    · obtain ⟨a, ha, ea⟩ := z5 c hc
      obtain ⟨b, hb1, hb2, eb⟩ := gtS_n f c n
      rw [q, gt_76 hn hc, ea, eb]
      exact ⟨a + 10 * b, by omega, by rw [show (10 : Int32) * nI b = nI (10 * b) from pk_mul 10 b]; exact nI_add a (10 * b)⟩
    · obtain ⟨a, ha, ea⟩ := z5 d hd
      rw [gt_o (by omega) (by omega) (by omega) (by omega) (by omega) (by omega)]; exact ⟨a, by omega, ea⟩
theorem Rl_gt {M : Mm} {r t p n c : Nat} {f : Nat → Int32} (hn : n < 20) (hc : c < 8) (hv : RV f t p n) (h : Rl M r f (t + 1) n) (z : RZ f (t + 1) n) (hU : upR (rgR f c) (f 71) (t + 1) = p) : Rl (va_up (fillF M r (noP r n) c n t p) r (upd (fillF M r (noP r n) c n t p r) 5 (fillF M r (noP r n) c n t p r 5 + 1))) r (gtR f t p n c) (t + 1) (n + 1) := by
  obtain ⟨hC, hR, hS, hO, hG, hK, hH, hN⟩ := h
  have ht : t < 96 := hv.1
  have hpt : p ≤ t + 1 := by rw [← hU]; exact upR_le _ _ _
  have er : fillF M r (noP r n) c n t p r = M r := fillF_ne (by (try simp only [chP, obP, noP] at *); omega) (by (try simp only [chP, obP, noP] at *); omega)
  rw [er]
  have hgt : fnF M r c n = 10 * gtS f c n := by unfold fnF; rw [gtS_std hN c n (Nat.le_refl _)]
  have hwh : whR f c (t + 1 - p) p = whI (orI (grB M r t) p) (orI (leB M r t c) p) := by
    refine why_eq hpt (fun j hj => hK _ (by omega)) (fun j hj => hS c hc _ (by omega) (fun q => ?_)) hH.2.1
    have h1 := upR_at (rgR f c) (f 71) (t + 1) j (by omega)
    obtain ⟨L, hL1, hL5, eL⟩ := z.1
    rw [show t + 1 - 1 - j = t - j by omega] at h1
    refine h1 ?_
    show f (172 + 96 * c + (t - j)) < f 71
    rw [q, eL]
    exact Int32.lt_of_lt_of_le (show (-1 : Int32) < 0 by decide) (nI_pos' (by omega))
  have g1 : ∀ j, j ≠ 75 → j ≠ 76 + c → j ≠ 92 + n → j ≠ 112 + n → j ≠ 132 + n → j ≠ 152 + n → gtR f t p n c j = f j := fun j h1 h2 h3 h4 h5 h6 => gt_o h1 h2 h3 h4 h5 h6
  have g75 := gt_75 (f := f) (t := t) (p := p) hn hc
  have g76 := gt_76 (f := f) (t := t) (p := p) hn hc
  have g92 := gt_92 (f := f) (t := t) (p := p) hn hc
  have g112 := gt_112 (f := f) (t := t) (p := p) hn hc
  have g132 := gt_132 (f := f) (t := t) (p := p) hn hc
  have g152 := (gt_152 (f := f) (t := t) (p := p) hn hc).trans hwh
  generalize gtR f t p n c = g at g1 g75 g76 g92 g112 g132 g152 ⊢
  have eN : ∀ x, x ≠ r → x ≠ chP r c → x ≠ noP r n → va_up (fillF M r (noP r n) c n t p) r (upd (M r) 5 (M r 5 + 1)) x = M x := fun x h1 h2 h3 => (va_up_ne _ _ h1).trans (fillF_ne h3 h2)
  have e0 : va_up (fillF M r (noP r n) c n t p) r (upd (M r) 5 (M r 5 + 1)) r = upd (M r) 5 (M r 5 + 1) := va_up_self _ _ _
  have e1 : va_up (fillF M r (noP r n) c n t p) r (upd (M r) 5 (M r 5 + 1)) (chP r c) = upd (M (chP r c)) 4 (M (chP r c) 4 + fnF M r c n) := by
    rw [va_up_ne _ _ (by (try simp only [chP, obP, noP] at *); omega)]; unfold fillF; rw [va_up_self]
  have e2 : va_up (fillF M r (noP r n) c n t p) r (upd (M r) 5 (M r 5 + 1)) (noP r n) = upd (upd (fiR (M (noP r n)) (nI c) (fnF M r c n) (orI (grB M r t) p) (orI (leB M r t c) p)) 4 0) 5 1 := by
    rw [va_up_ne _ _ (by (try simp only [chP, obP, noP] at *); omega)]; unfold fillF; rw [va_up_ne _ _ (by (try simp only [chP, obP, noP] at *); omega), va_up_self]
  generalize va_up (fillF M r (noP r n) c n t p) r (upd (M r) 5 (M r 5 + 1)) = N at eN e0 e1 e2 ⊢
  refine ⟨?_, rlR_of (fun d hd => eN _ (by (try simp only [chP, obP, noP] at *); omega) (by (try simp only [chP, obP, noP] at *); omega) (by (try simp only [chP, obP, noP] at *); omega)) (fun j hj => g1 j (by omega) (by omega) (by omega) (by omega) (by omega) (by omega)) hR, rlS_of (by omega) (fun d hd => eN _ (by (try simp only [chP, obP, noP] at *); omega) (by (try simp only [chP, obP, noP] at *); omega) (by (try simp only [chP, obP, noP] at *); omega)) (fun j hj => g1 j (by omega) (by omega) (by omega) (by omega) (by omega) (by omega)) hS, rlO_of (fun d hd => eN _ (by (try simp only [chP, obP, noP] at *); omega) (by (try simp only [chP, obP, noP] at *); omega) (by (try simp only [chP, obP, noP] at *); omega)) (fun j hj => g1 j (by omega) (by omega) (by omega) (by omega) (by omega) (by omega)) hO, rlG_of (eN _ (by (try simp only [chP, obP, noP] at *); omega) (by (try simp only [chP, obP, noP] at *); omega) (by (try simp only [chP, obP, noP] at *); omega)) (fun j hj => g1 j (by omega) (by omega) (by omega) (by omega) (by omega) (by omega)) hG, rlK_of (by omega) (eN _ (by (try simp only [chP, obP, noP] at *); omega) (by (try simp only [chP, obP, noP] at *); omega) (by (try simp only [chP, obP, noP] at *); omega)) (fun j hj => g1 j (by omega) (by omega) (by omega) (by omega) (by omega) (by omega)) hK, ?_, ?_⟩
  · intro d hd
    obtain ⟨c0, c1, c2, c3, c4, c5⟩ := hC d hd
    rw [g1 (0 + d) (by omega) (by omega) (by omega) (by omega) (by omega) (by omega), g1 (8 + d) (by omega) (by omega) (by omega) (by omega) (by omega) (by omega), g1 (16 + d) (by omega) (by omega) (by omega) (by omega) (by omega) (by omega), g1 (24 + d) (by omega) (by omega) (by omega) (by omega) (by omega) (by omega), g1 (84 + d) (by omega) (by omega) (by omega) (by omega) (by omega) (by omega)]
    by_cases q : d = c
    · subst q
      rw [e1, g76, hgt, ← c4]
      exact ⟨c0, c1, c2, c3, rfl, c5⟩
    · rw [eN _ (by (try simp only [chP, obP, noP] at *); omega) (by (try simp only [chP, obP, noP] at *); omega) (by (try simp only [chP, obP, noP] at *); omega), g1 (76 + d) (by omega) (by omega) (by omega) (by omega) (by omega) (by omega)]
      exact ⟨c0, c1, c2, c3, c4, c5⟩
  · obtain ⟨h5, h6, h7, h8, h9⟩ := hH
    unfold rlH
    rw [e0, g75, g1 71 (by omega) (by omega) (by omega) (by omega) (by omega) (by omega), g1 72 (by omega) (by omega) (by omega) (by omega) (by omega) (by omega), g1 73 (by omega) (by omega) (by omega) (by omega) (by omega) (by omega), g1 74 (by omega) (by omega) (by omega) (by omega) (by omega) (by omega), ← h5]
    exact ⟨rfl, h6, h7, h8, h9⟩
  · intro e he
    by_cases q : e = n
    · subst q
      rw [e2, g92, g112, g132, g152, ← hgt]
      exact ⟨rfl, rfl, Or.inl ⟨rfl, rfl, rfl⟩, rfl⟩
    · rw [eN _ (by (try simp only [chP, obP, noP] at *); omega) (by (try simp only [chP, obP, noP] at *); omega) (by (try simp only [chP, obP, noP] at *); omega), g1 (92 + e) (by omega) (by omega) (by omega) (by omega) (by omega) (by omega), g1 (112 + e) (by omega) (by omega) (by omega) (by omega) (by omega) (by omega), g1 (132 + e) (by omega) (by omega) (by omega) (by omega) (by omega) (by omega), g1 (152 + e) (by omega) (by omega) (by omega) (by omega) (by omega) (by omega)]
      exact hN e (by omega)
/-- a notice, or none -/
theorem gn_both {M : Mm} {r t p n c : Nat} {f : Nat → Int32} (hc : c < 8) (hv : RV f t p n) (h : Rl M r f (t + 1) n) : (gnS M r t p c = M ∧ gnR f t p c = f) ∨ (n < 20 ∧ upR (rgR f c) (f 71) (t + 1) = p ∧ gnS M r t p c = va_up (fillF M r (noP r n) c n t p) r (upd (fillF M r (noP r n) c n t p r) 5 (fillF M r (noP r n) c n t p r 5 + 1)) ∧ gnR f t p c = gtR f t p n c) := by
  obtain ⟨hC, hR, hS, hO, hG, hK, hH, hN⟩ := h
  obtain ⟨v1, v2, v3, v4, v5, v6, v7, v8, v9⟩ := hv
  have eU : upR (M (chP r c + 1 + 1)) (M r 6) (t + 1) = upR (rgR f c) (f 71) (t + 1) := by
    rw [hH.2.1]; exact upR_congr _ _ (fun j hj => hR c hc j (by omega))
  have e5 : M r 5 = nI n := hH.1.trans v7
  have hle := upR_le (rgR f c) (f 71) (t + 1)
  by_cases hU : upR (rgR f c) (f 71) (t + 1) = p
  · by_cases h20 : n < 20
    · exact Or.inr ⟨h20, hU, gnS_yes (eU.trans hU) e5 h20, gnR_yes v7 v5 h20 (congrArg nI hU)⟩
    · exact Or.inl ⟨gnS_no2 (fun q => h20 (of19 v6 (by rw [← e5]; exact q))), gnR_no1 v7 v6 (by omega)⟩
  · exact Or.inl ⟨gnS_no1 (fun q => hU (eU.symm.trans q)), gnR_no2 v5 (fun q => hU (nI_inj (by omega) (by omega) q))⟩
theorem Rl_gn {M : Mm} {r t p n c : Nat} {f : Nat → Int32} (hc : c < 8) (hv : RV f t p n) (h : Rl M r f (t + 1) n) (z : RZ f (t + 1) n) : ∃ n2, n ≤ n2 ∧ RV (gnR f t p c) t p n2 ∧ Rl (gnS M r t p c) r (gnR f t p c) (t + 1) n2 ∧ RZ (gnR f t p c) (t + 1) n2 := by
  rcases gn_both hc hv h with ⟨e1, e2⟩ | ⟨hn, hU, e1, e2⟩
  · rw [e1, e2]; exact ⟨n, Nat.le_refl _, hv, h, z⟩
  · rw [e1, e2]; exact ⟨n + 1, by omega, gtR_RV hn hv, Rl_gt hn hc hv h z hU, RZ_gt hn hc z⟩
theorem Rl_gnI {M : Mm} {r t p n : Nat} {f : Nat → Int32} (hv : RV f t p n) (h : Rl M r f (t + 1) n) (z : RZ f (t + 1) n) : ∀ c, c ≤ 8 → ∃ n2, n ≤ n2 ∧ RV (gnI f t p c) t p n2 ∧ Rl (gnF M r t p c) r (gnI f t p c) (t + 1) n2 ∧ RZ (gnI f t p c) (t + 1) n2 := by
  intro c
  induction c with
  | zero => intro _; exact ⟨n, Nat.le_refl _, hv, h, z⟩
  | succ c ih =>
    intro hc
    obtain ⟨n2, hn2, hv2, h2, z2⟩ := ih (by omega)
    obtain ⟨n3, hn3, hv3, h3, z3⟩ := Rl_gn (c := c) (by omega) hv2 h2 z2
    exact ⟨n3, by omega, hv3, h3, z3⟩
/-- 5. the next tick -/
theorem clF_ne {M : Mm} {r x : Nat} (hx : ∀ d, d < 8 → x ≠ chP r d + 1 + 1) : ∀ c, c ≤ 8 → clF M r c x = M x := by
  intro c
  induction c with
  | zero => intro _; rfl
  | succ c ih => intro hc; exact (va_up_ne _ _ (hx c (by omega))).trans (ih (by omega))
theorem clF_in {M : Mm} {r d : Nat} : ∀ c, d < c → clF M r c (chP r d + 1 + 1) = fun _ => -1 := by
  intro c
  induction c with
  | zero => intro h; exact absurd h (by omega)
  | succ c ih =>
    intro h
    by_cases q : d = c
    · subst q; exact va_up_self _ _ _
    · exact (va_up_ne _ _ (by (try simp only [chP, obP, noP] at *); omega)).trans (ih (by omega))
theorem Rl_go {M : Mm} {r t p n : Nat} {f : Nat → Int32} (hv : RV f t p n) (h : Rl M r f (t + 1) n) (z : RZ f (t + 1) n) : ∃ t2, RV (goR f) t2 p n ∧ Rl (goF M r t) r (goR f) t2 n ∧ RZ (goR f) t2 n := by
  obtain ⟨hC, hR, hS, hO, hG, hK, hH, hN⟩ := h
  obtain ⟨z1, z2, z3, z4, z5⟩ := id z
  have hv0 := hv
  obtain ⟨v1, v2, v3, v4, v5, v6, v7, v8, v9⟩ := hv
  obtain ⟨h5, h6, h7, h8, h9⟩ := hH
  unfold goR goF
  rw [upd_at, v2, nI_1]
  by_cases h : t + 1 = 96
  · rw [if_pos h, if_pos (by rw [h]; rfl)]
    have g73 : fgR (upd (upd (upd f 74 (nI (t + 1))) 74 0) 73 (upd (upd f 74 (nI (t + 1))) 74 0 73 + 1)) 768 73 = f 73 + 1 := by
      unfold fgR; rw [if_neg (by omega), upd_at, upd_ne _ _ (by omega), upd_ne _ _ (by omega)]
    have g74 : fgR (upd (upd (upd f 74 (nI (t + 1))) 74 0) 73 (upd (upd f 74 (nI (t + 1))) 74 0 73 + 1)) 768 74 = 0 := by
      unfold fgR; rw [if_neg (by omega), upd_ne _ _ (by omega), upd_at]
    have gR : ∀ j, 172 ≤ j → j < 940 → fgR (upd (upd (upd f 74 (nI (t + 1))) 74 0) 73 (upd (upd f 74 (nI (t + 1))) 74 0 73 + 1)) 768 j = -1 := by
      intro j h1 h2; unfold fgR; rw [if_pos (by omega)]
    have gO : ∀ j, j ≠ 73 → j ≠ 74 → j < 172 ∨ 940 ≤ j → fgR (upd (upd (upd f 74 (nI (t + 1))) 74 0) 73 (upd (upd f 74 (nI (t + 1))) 74 0 73 + 1)) 768 j = f j := by
      intro j h1 h2 h3; unfold fgR; rw [if_neg (by omega), upd_ne _ _ h1, upd_ne _ _ h2, upd_ne _ _ h2]
    generalize fgR (upd (upd (upd f 74 (nI (t + 1))) 74 0) 73 (upd (upd f 74 (nI (t + 1))) 74 0 73 + 1)) 768 = g at g73 g74 gR gO ⊢
    have eN : ∀ x, x ≠ r → (∀ d, d < 8 → x ≠ chP r d + 1 + 1) → clF (va_up M r (upd (upd (M r) 9 0) 8 (M r 8 + 1))) r 8 x = M x := fun x h1 h2 => (clF_ne h2 8 (Nat.le_refl _)).trans (va_up_ne _ _ h1)
    have e0 : clF (va_up M r (upd (upd (M r) 9 0) 8 (M r 8 + 1))) r 8 r = upd (upd (M r) 9 0) 8 (M r 8 + 1) := (clF_ne (fun d hd => (by (try simp only [chP, obP, noP] at *); omega)) 8 (Nat.le_refl _)).trans (va_up_self _ _ _)
    have e1 : ∀ d, d < 8 → clF (va_up M r (upd (upd (M r) 9 0) 8 (M r 8 + 1))) r 8 (chP r d + 1 + 1) = fun _ => -1 := fun d hd => clF_in 8 hd
    generalize clF (va_up M r (upd (upd (M r) 9 0) 8 (M r 8 + 1))) r 8 = N at eN e0 e1 ⊢
    refine ⟨0, ⟨by omega, g74, v3, v4, (gO 72 (by omega) (by omega) (by omega)).trans v5, v6, (gO 75 (by omega) (by omega) (by omega)).trans v7, fun c hc => by rw [gO _ (by omega) (by omega) (by omega)]; exact v8 c hc, fun c hc => by rw [gO _ (by omega) (by omega) (by omega)]; exact v9 c hc⟩, ⟨rlC_of (fun c hc => eN _ (by (try simp only [chP, obP, noP] at *); omega) (fun d hd => (by (try simp only [chP, obP, noP] at *); omega))) (fun j hj => gO j (by omega) (by omega) (by omega)) hC, ?_, fun c hc s hs => absurd hs (by omega), rlO_of (fun c hc => eN _ (by (try simp only [chP, obP, noP] at *); omega) (fun d hd => (by (try simp only [chP, obP, noP] at *); omega))) (fun j hj => gO j (by omega) (by omega) (by omega)) hO, rlG_of (eN _ (by (try simp only [chP, obP, noP] at *); omega) (fun d hd => (by (try simp only [chP, obP, noP] at *); omega))) (fun j hj => gO j (by omega) (by omega) (by omega)) hG, fun s hs => absurd hs (by omega), ?_, rlN_of v6 (fun c hc => eN _ (by (try simp only [chP, obP, noP] at *); omega) (fun d hd => (by (try simp only [chP, obP, noP] at *); omega))) (fun j hj => gO j (by omega) (by omega) (by omega)) hN⟩, ?_⟩
    · intro c hc s hs
      rw [e1 c hc, gR _ (by omega) (by omega)]
    · unfold rlH
      rw [e0, g73, g74, gO 71 (by omega) (by omega) (by omega), gO 72 (by omega) (by omega) (by omega), gO 75 (by omega) (by omega) (by omega), ← h8]
      exact ⟨h5, h6, h7, rfl, rfl⟩
    · refine ⟨by rw [gO 71 (by omega) (by omega) (by omega)]; exact z1, fun c hc => ?_, fun c hc j h1 h2 => gR _ (by omega) (by omega), fun e he => ?_, fun c hc => ?_⟩
      · rw [gO (16 + c) (by omega) (by omega) (by omega), gO (24 + c) (by omega) (by omega) (by omega)]; exact z2 c hc
      · rw [gO (92 + e) (by omega) (by omega) (by omega)]; exact z4 e he
      · rw [gO (76 + c) (by omega) (by omega) (by omega)]; exact z5 c hc
  · rw [if_neg h, if_neg (show ¬ nI (t + 1) = 96 from fun q => h (nI_inj (a := t + 1) (b := 96) (by omega) (by omega) q))]
    have g74 : upd f 74 (nI (t + 1)) 74 = nI (t + 1) := upd_at _ _ _
    have gO : ∀ j, j ≠ 74 → upd f 74 (nI (t + 1)) j = f j := fun j hj => upd_ne _ _ hj
    generalize upd f 74 (nI (t + 1)) = g at g74 gO ⊢
    have eN : ∀ x, x ≠ r → va_up M r (upd (M r) 9 (nI (t + 1))) x = M x := fun x h1 => va_up_ne _ _ h1
    have e0 : va_up M r (upd (M r) 9 (nI (t + 1))) r = upd (M r) 9 (nI (t + 1)) := va_up_self _ _ _
    generalize va_up M r (upd (M r) 9 (nI (t + 1))) = N at eN e0 ⊢
    refine ⟨t + 1, ⟨by omega, g74, v3, v4, (gO 72 (by omega)).trans v5, v6, (gO 75 (by omega)).trans v7, fun c hc => by rw [gO _ (by omega)]; exact v8 c hc, fun c hc => by rw [gO _ (by omega)]; exact v9 c hc⟩, ⟨rlC_of (fun c hc => eN _ (by (try simp only [chP, obP, noP] at *); omega)) (fun j hj => gO j (by omega)) hC, rlR_of (fun c hc => eN _ (by (try simp only [chP, obP, noP] at *); omega)) (fun j hj => gO j (by omega)) hR, rlS_of (by omega) (fun c hc => eN _ (by (try simp only [chP, obP, noP] at *); omega)) (fun j hj => gO j (by omega)) hS, rlO_of (fun c hc => eN _ (by (try simp only [chP, obP, noP] at *); omega)) (fun j hj => gO j (by omega)) hO, rlG_of (eN _ (by (try simp only [chP, obP, noP] at *); omega)) (fun j hj => gO j (by omega)) hG, rlK_of (by omega) (eN _ (by (try simp only [chP, obP, noP] at *); omega)) (fun j hj => gO j (by omega)) hK, ?_, rlN_of v6 (fun c hc => eN _ (by (try simp only [chP, obP, noP] at *); omega)) (fun j hj => gO j (by omega)) hN⟩, RZ_of v6 (fun j hj => gO j (by omega)) z⟩
    unfold rlH
    rw [e0, g74, gO 71 (by omega), gO 72 (by omega), gO 73 (by omega), gO 75 (by omega)]
    exact ⟨h5, h6, h7, h8, rfl⟩
/-- a whole tick, on both sides -/
theorem Rl_tick {M : Mm} {r t p n : Nat} {f : Nat → Int32} (hv : RV f t p n) (h : Rl M r f t n) (z : RZ f t n) : ∃ t2 n2, n ≤ n2 ∧ RV (tkR f t p) t2 p n2 ∧ Rl (ptF M r t p) r (tkR f t p) t2 n2 ∧ RZ (tkR f t p) t2 n2 := by
  have ht := hv.1
  have hn := hv.2.2.2.2.2.1
  have h1 := Rl_nd ht hn h z
  have z1 := RZ_le (Nat.le_succ t) (RZ_nd hn z)
  have v1 : RV (ndR f t 8) t p n := RV_nd hv
  have eg : ndR f t 8 (32 + t / 4) = f (32 + t / 4) := ndR_lo f t (by omega) 8
  have h2 := Rl_waI v1 h1 z1 (fun c hc => by rw [ndR_in f hc ht ht 8 (by omega), if_pos ⟨rfl, hc⟩]; exact (shR_congr hc (fun j hj => ndR_lo f t (by omega) 8) _).symm) 3 (Nat.le_refl _)
  have v2 : RV (waI (ndR f t 8) t 3) t p n := RV_wa (by omega) v1
  have h3 := Rl_tiI (by omega) hn h2.1 3 (Nat.le_refl _)
  have z3 := RZ_ti hn h2.2
  have v3 : RV (tiI (waI (ndR f t 8) t 3) 3) t p n := RV_ti (by omega) v2
  obtain ⟨n2, hn2, v4, h4, z4⟩ := Rl_gnI v3 h3 z3 8 (Nat.le_refl _)
  obtain ⟨t2, v5, h5, z5⟩ := Rl_go v4 h4 z4
  refine ⟨t2, n2, hn2, v5, ?_, z5⟩
  unfold ptF trG
  rw [gyF_gr h.2.2.2.2.1 ht]
  rw [eg] at h5
  exact h5
/-- the class's ridge at r, and the reference's row -/
def Rel (M : Mm) (r : Nat) (f : Nat → Int32) : Prop := ∃ t p n, RV f t p n ∧ Rl M r f t n ∧ RZ f t n
theorem Rl_CI {M : Mm} {r t p n : Nat} {f : Nat → Int32} (hv : RV f t p n) (h : Rl M r f t n) (z : RZ f t n) : CI M r t p := by
  obtain ⟨v1, v2, v3, v4, v5, v6, v7, v8, v9⟩ := hv
  obtain ⟨h5, h6, h7, h8, h9⟩ := h.2.2.2.2.2.2.1
  obtain ⟨L, hL1, hL5, eL⟩ := z.1
  exact ⟨h9.trans v2, h7.trans v5, by rw [h6, eL]; exact Int32.lt_of_lt_of_le (show (-1 : Int32) < 0 by decide) (nI_pos' (by omega)), n, v6, h5.trans v7⟩
theorem Rel_CJ {M : Mm} {r : Nat} {f : Nat → Int32} (h : Rel M r f) : CJ M r := by
  obtain ⟨t, p, n, hv, h, z⟩ := h
  exact ⟨t, p, hv.1, hv.2.2.1, hv.2.2.2.1, Rl_CI hv h z⟩
theorem Rel_RW {M : Mm} {r : Nat} {f : Nat → Int32} (h : Rel M r f) : RW f := by
  obtain ⟨t, p, n, hv, h, z⟩ := h
  exact ⟨t, p, n, hv⟩
theorem Rel_tick {M : Mm} {r : Nat} {f : Nat → Int32} (h : Rel M r f) : Rel (ptM M r) r (tkF f) := by
  obtain ⟨t, p, n, hv, h, z⟩ := h
  rw [ptM_is hv.1 hv.2.2.2.1 (Rl_CI hv h z), tkF_is hv]
  obtain ⟨t2, n2, -, v2, h2, z2⟩ := Rl_tick hv h z
  exact ⟨t2, p, n2, v2, h2, z2⟩
theorem Rel_it {M : Mm} {r : Nat} {f : Nat → Int32} (h : Rel M r f) : ∀ i, Rel (itF M r i) r (psR f i) := by
  intro i
  induction i with
  | zero => exact h
  | succ i ih => exact Rel_tick ih
theorem Rel_of {M N : Mm} {r q : Nat} {f g : Nat → Int32} (hM : ∀ x, x < 70 → N (q + x) = M (r + x)) (hf : ∀ j, j < 1804 → g j = f j) (h : Rel M r f) : Rel N q g := by
  obtain ⟨t, p, n, hv, h, z⟩ := h
  exact ⟨t, p, n, RV_of (fun j hj => hf j (by omega)) hv, Rl_of (by have := hv.1; omega) hv.2.2.2.2.2.1 hM hf h, RZ_of hv.2.2.2.2.2.1 (fun j hj => hf j (by omega)) z⟩
theorem Rl_nch {M : Mm} {r t n : Nat} {f : Nat → Int32} (h : Rl M r f t n) (z : RZ f t n) : nchS M r n := by
  intro e he
  obtain ⟨c, hc, ec⟩ := z.2.2.2.1 e he
  have h0 := (h.2.2.2.2.2.2.2 e he).1
  rw [h0, ec, nI_clamp (by omega)]
  exact ⟨hc, rfl⟩

