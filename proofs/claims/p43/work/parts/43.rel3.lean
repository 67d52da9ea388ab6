theorem if_iff {α : Type} {p q : Prop} [Decidable p] [Decidable q] {x y : α} (h : p ↔ q) : (if p then x else y) = (if q then x else y) := by
  by_cases hp : p
  · rw [if_pos hp, if_pos (h.mp hp)]
  · rw [if_neg hp, if_neg (fun z => hp (h.mpr z))]
theorem cnt_eq {f g : Nat → Int32} (y : Int32) : ∀ n, (∀ j, j < n → f j = g j) → cntF f y n = cntR g y n := by
  intro n
  induction n with
  | zero => intro _; rfl
  | succ n ih =>
    intro h
    unfold cntF cntR
    rw [h n (by omega), ih (fun j hj => h j (by omega))]
    by_cases q : g n < y
    · rw [if_pos q, if_pos q]; exact (Int32.add_zero _).symm
    · rw [if_neg q, if_neg q]
theorem rowF_up (f : Nat → Int32) (y : Int32) : ∀ n, rowF f y n = nI (upR f y n) := by
  intro n
  induction n with
  | zero => rfl
  | succ n ih =>
    unfold rowF upR
    by_cases q : f n < y
    · rw [if_pos q, if_pos q]; rfl
    · rw [if_neg q, if_neg q, ih]; exact nI_add _ 1
theorem lng_eq {f g : Nat → Int32} (y : Int32) : ∀ n, (∀ j, j < n → f j = g j) → lngF f y n = lonR g y n := by
  intro n
  induction n with
  | zero => intro _; rfl
  | succ n ih =>
    intro h
    unfold lngF lonR mxI
    rw [ih (fun j hj => h j (by omega)), rowF_up, upR_congr y (n + 1) (fun j hj => h j hj)]
/-- the longest row as a number -/
def LN (f : Nat → Int32) (y : Int32) : Nat → Nat
  | 0 => 0
  | n + 1 => max (LN f y n) (upR f y (n + 1))
theorem LN_le (f : Nat → Int32) (y : Int32) : ∀ n, LN f y n ≤ n := by
  intro n
  induction n with
  | zero => exact Nat.le_refl _
  | succ n ih => unfold LN; have := upR_le f y (n + 1); omega
theorem LN_ge (f : Nat → Int32) (y : Int32) : ∀ n m, m ≤ n → upR f y m ≤ LN f y n := by
  intro n
  induction n with
  | zero => intro m hm; rw [show m = 0 by omega]; exact Nat.le_refl _
  | succ n ih =>
    intro m hm
    unfold LN
    by_cases q : m = n + 1
    · rw [q]; omega
    · have := ih m (by omega); omega
theorem LN_ub (f : Nat → Int32) (y : Int32) (B : Nat) : ∀ n, (∀ m, m ≤ n → upR f y m ≤ B) → LN f y n ≤ B := by
  intro n
  induction n with
  | zero => intro _; exact Nat.zero_le _
  | succ n ih =>
    intro h
    unfold LN
    have h1 := ih (fun m hm => h m (by omega))
    have h2 := h (n + 1) (Nat.le_refl _)
    omega
theorem lonR_LN (f : Nat → Int32) (y : Int32) : ∀ n, n ≤ 96 → lonR f y n = nI (LN f y n) := by
  intro n
  induction n with
  | zero => intro _; rfl
  | succ n ih =>
    intro hn
    unfold lonR LN
    rw [ih (by omega)]
    have h1 := LN_le f y n
    have h2 := upR_le f y (n + 1)
    by_cases q : LN f y n < upR f y (n + 1)
    · rw [if_pos ((nI_ltI (by omega) (by omega)).mpr q), show max (LN f y n) (upR f y (n + 1)) = upR f y (n + 1) by omega]
    · rw [if_neg (fun z => q ((nI_ltI (by omega) (by omega)).mp z)), show max (LN f y n) (upR f y (n + 1)) = LN f y n by omega]
def RN (f : Nat → Int32) (y : Int32) : Nat → Nat
  | 0 => 0
  | a + 1 => max (RN f y a) (runF f y a (96 - a))
theorem RN_le (f : Nat → Int32) (y : Int32) : ∀ n, RN f y n ≤ 96 := by
  intro n
  induction n with
  | zero => exact Nat.zero_le _
  | succ n ih => unfold RN; have := runF_le f y (96 - n) n; omega
theorem RN_ge (f : Nat → Int32) (y : Int32) : ∀ n a, a < n → runF f y a (96 - a) ≤ RN f y n := by
  intro n
  induction n with
  | zero => intro a ha; exact absurd ha (by omega)
  | succ n ih =>
    intro a ha
    unfold RN
    by_cases q : a = n
    · rw [q]; omega
    · have := ih a (by omega); omega
theorem RN_ub (f : Nat → Int32) (y : Int32) (B : Nat) : ∀ n, (∀ a, a < n → runF f y a (96 - a) ≤ B) → RN f y n ≤ B := by
  intro n
  induction n with
  | zero => intro _; exact Nat.zero_le _
  | succ n ih =>
    intro h
    unfold RN
    have h1 := ih (fun m hm => h m (by omega))
    have h2 := h n (by omega)
    omega
theorem innF_n (L : Nat) (hL : L < 1000) : ∀ k, k < 1000 → innF (nI L) k = nI (max L k) := by
  intro k
  induction k with
  | zero => intro _; rw [Nat.max_eq_left (Nat.zero_le _)]; rfl
  | succ k ih =>
    intro hk
    unfold innF
    rw [ih (by omega), nI_max (by omega) (by omega), show max (max L k) (k + 1) = max L (k + 1) by omega]
theorem lngR_RN (f : Nat → Int32) (y : Int32) : ∀ a, lngR f y a = nI (RN f y a) := by
  intro a
  induction a with
  | zero => rfl
  | succ a ih =>
    unfold lngR RN
    have h1 := RN_le f y a
    have h2 := runF_le f y (96 - a) a
    rw [ih, innF_n _ (by omega) _ (by omega)]
theorem runF_at (f : Nat → Int32) (y : Int32) : ∀ n a j, j < runF f y a n → ¬ f (a + j) < y := by
  intro n
  induction n with
  | zero => intro a j h; exact absurd h (by unfold runF; omega)
  | succ n ih =>
    intro a j h
    unfold runF at h
    by_cases q : f a < y
    · rw [if_pos q] at h; exact absurd h (by omega)
    · rw [if_neg q] at h
      by_cases hj : j = 0
      · rw [hj]; exact q
      · rw [show a + j = a + 1 + (j - 1) by omega]; exact ih (a + 1) (j - 1) (by omega)
theorem runF_ge (f : Nat → Int32) (y : Int32) : ∀ k n a, k ≤ n → (∀ j, j < k → ¬ f (a + j) < y) → k ≤ runF f y a n := by
  intro k
  induction k with
  | zero => intro n a _ _; exact Nat.zero_le _
  | succ k ih =>
    intro n a hk h
    cases n with
    | zero => exact absurd hk (by omega)
    | succ n =>
      unfold runF
      rw [if_neg (show ¬ f a < y from h 0 (by omega))]
      exact Nat.succ_le_succ (ih n (a + 1) (by omega) (fun j hj => by have := h (j + 1) (by omega); rwa [show a + (j + 1) = a + 1 + j by omega] at this))
theorem RN_LN (f : Nat → Int32) (y : Int32) : RN f y 96 = LN f y 96 := by
  refine Nat.le_antisymm (RN_ub f y _ 96 (fun a ha => ?_)) (LN_ub f y _ 96 (fun m hm => ?_))
  · have h1 := runF_le f y (96 - a) a
    refine Nat.le_trans (upR_ge f y (runF f y a (96 - a)) (a + runF f y a (96 - a)) (by omega) (fun j hj => ?_)) (LN_ge f y 96 _ (by omega))
    have := runF_at f y (96 - a) a (runF f y a (96 - a) - 1 - j) (by omega)
    rwa [show a + (runF f y a (96 - a) - 1 - j) = a + runF f y a (96 - a) - 1 - j by omega] at this
  · have h1 := upR_le f y m
    by_cases q : upR f y m = 0
    · rw [q]; exact Nat.zero_le _
    · refine Nat.le_trans (runF_ge f y (upR f y m) (96 - (m - upR f y m)) (m - upR f y m) (by omega) (fun j hj => ?_)) (RN_ge f y 96 _ (by omega))
      have := upR_at f y m (upR f y m - 1 - j) (by omega)
      rwa [show m - 1 - (upR f y m - 1 - j) = m - upR f y m + j by omega] at this
theorem runF_congr {f g : Nat → Int32} (y : Int32) : ∀ n a, (∀ j, j < a + n → f j = g j) → runF f y a n = runF g y a n := by
  intro n
  induction n with
  | zero => intro a _; rfl
  | succ n ih => intro a h; unfold runF; rw [h a (by omega), ih (a + 1) (fun j hj => h j (by omega))]
theorem RN_congr {f g : Nat → Int32} (y : Int32) (h : ∀ j, j < 96 → f j = g j) : ∀ n, n ≤ 96 → RN f y n = RN g y n := by
  intro n
  induction n with
  | zero => intro _; rfl
  | succ n ih => intro hn; unfold RN; rw [ih (by omega), runF_congr y (96 - n) n (fun j hj => h j (by omega))]
theorem lngR_eq {f g : Nat → Int32} (y : Int32) (h : ∀ j, j < 96 → f j = g j) : lngR f y 96 = lonR g y 96 := by
  rw [lngR_RN, RN_congr y h 96 (Nat.le_refl _), RN_LN, lonR_LN g y 96 (Nat.le_refl _)]
/-- the best observer -/
theorem le_eq {M : Mm} {r : Nat} {f : Nat → Int32} (h : rlO M r f) : ∀ k, k ≤ 3 → leF M r k = boR f k := by
  intro k
  induction k with
  | zero => intro _; rfl
  | succ k ih =>
    intro hk
    obtain ⟨-, -, -, o3, o4⟩ := h k (by omega)
    unfold leF boR
    rw [ih (by omega), o3, o4]
    rcases boR_c f k with e | ⟨b, hb, e⟩
    · rw [e]
      exact if_iff (and_congr Iff.rfl ⟨fun _ => Or.inl rfl, fun _ => Or.inl rfl⟩)
    · obtain ⟨-, -, -, p3, p4⟩ := h b (by omega)
      rw [e, nI_clamp (by omega), p3, p4]
/-- fines -/
theorem fin_eq {M : Mm} {r n : Nat} {f : Nat → Int32} (h : rlN M r f n) (x : Int32) : ∀ m, m ≤ n → finF M r x m = finR f x m := by
  intro m
  induction m with
  | zero => intro _; rfl
  | succ m ih =>
    intro hm
    obtain ⟨h0, h1, hd, -⟩ := h m (by omega)
    unfold finF finR
    rw [ih (by omega), h0, h1]
    rcases hd with ⟨-, h5, h6⟩ | ⟨-, h5, h6⟩ | ⟨-, h5, h6⟩
    · rw [h5, h6, if_neg (by decide : ¬ (1 : Int32) = 0)]
      by_cases q : f (92 + m) = x
      · rw [if_pos q, if_pos ⟨q, by decide⟩]
      · rw [if_neg q, if_neg (fun z => q z.1)]; exact (Int32.add_zero _).symm
    · rw [h5, h6, if_neg (by decide : ¬ (1 : Int32) = 0)]
      by_cases q : f (92 + m) = x
      · rw [if_pos q, if_pos ⟨q, by decide⟩]
      · rw [if_neg q, if_neg (fun z => q z.1)]; exact (Int32.add_zero _).symm
    · rw [h5, h6, if_pos rfl, if_neg (fun z => absurd z.2 (by decide))]; exact (Int32.add_zero _).symm
theorem mf_eq {M : Mm} {r n : Nat} {f : Nat → Int32} (h : rlN M r f n) : ∀ c, mfF (fun c => finF M r (nI c) n) c = wcR f n c := by
  intro c
  induction c with
  | zero => rfl
  | succ c ih =>
    unfold mfF wcR
    rw [ih, fin_eq h (nI c) n (Nat.le_refl _)]
    by_cases q : (wcR f n c).2 < finR f (nI c) n
    · rw [if_pos q, if_neg (Int32.not_le.mpr q)]
    · rw [if_neg q, if_pos (Int32.not_lt.mp q)]
theorem stn_eq {M : Mm} {r n : Nat} {f : Nat → Int32} (h : rlN M r f n) : ∀ m, m ≤ n → stnF M r m = staR f m := by
  intro m
  induction m with
  | zero => intro _; rfl
  | succ m ih =>
    intro hm
    obtain ⟨-, -, hd, -⟩ := h m (by omega)
    unfold stnF staR
    rw [ih (by omega)]
    rcases hd with ⟨-, h5, h6⟩ | ⟨-, h5, h6⟩ | ⟨-, h5, h6⟩
    · rw [h5, h6, if_neg (by decide), if_pos (by decide)]
    · rw [h5, h6, if_neg (by decide), if_pos (by decide)]
    · rw [h5, h6, if_pos rfl, if_neg (by decide)]; exact (Int32.add_zero _).symm
theorem out_eq {M : Mm} {r n e : Nat} {f : Nat → Int32} (h : rlN M r f n) (he : e < n) : outC (M (noP r e)) = if 0 < f (132 + e) then 3 else f (152 + e) := by
  obtain ⟨-, -, hd, hw⟩ := h e he
  unfold outC
  rw [hw]
  rcases hd with ⟨h4, -, h6⟩ | ⟨h4, -, h6⟩ | ⟨h4, -, h6⟩
  · rw [h4, h6, if_pos rfl, if_neg (by decide : ¬ (0 : Int32) < 0)]; rfl
  · rw [h4, h6, if_neg (by decide), if_pos (by decide)]
  · rw [h4, h6, if_neg (by decide), if_pos (by decide)]
theorem std_eq {M : Mm} {r n e : Nat} {f : Nat → Int32} (h : rlN M r f n) (he : e < n) : M (noP r e) 5 = if f (132 + e) < 2 then 1 else 0 := by
  obtain ⟨-, -, hd, -⟩ := h e he
  rcases hd with ⟨-, h5, h6⟩ | ⟨-, h5, h6⟩ | ⟨-, h5, h6⟩
  · rw [h5, h6, if_pos (by decide)]
  · rw [h5, h6, if_pos (by decide)]
  · rw [h5, h6, if_neg (by decide)]
/-- sums of smoke -/
theorem sumF_congr {f g : Nat → Int32} (a : Nat) : ∀ n, (∀ j, a ≤ j → j < a + n → f j = g j) → sumF f a n = sumF g a n := by
  intro n
  induction n with
  | zero => intro _; rfl
  | succ n ih => intro h; unfold sumF; rw [ih (fun j h1 h2 => h j h1 (by omega)), h (a + n) (by omega) (by omega)]
theorem sumF_add (f : Nat → Int32) (a m : Nat) : ∀ n, sumF f a (m + n) = sumF f a m + sumF f (a + m) n := by
  intro n
  induction n with
  | zero => exact (Int32.add_zero _).symm
  | succ n ih =>
    show sumF f a (m + n) + f (a + (m + n)) = sumF f a m + (sumF f (a + m) n + f (a + m + n))
    rw [ih, Int32.add_assoc, Nat.add_assoc]
theorem sumF_zero (f : Nat → Int32) (a : Nat) : ∀ n, (∀ j, a ≤ j → j < a + n → f j = 0) → sumF f a n = 0 := by
  intro n
  induction n with
  | zero => intro _; rfl
  | succ n ih => intro h; unfold sumF; rw [ih (fun j h1 h2 => h j h1 (by omega)), h (a + n) (by omega) (by omega)]; rfl
theorem sumF_head (f : Nat → Int32) (a n : Nat) : sumF f a (1 + n) = f a + sumF f (a + 1) n := by
  rw [sumF_add]
  show (0 + f (a + 0)) + sumF f (a + 1) n = _
  rw [Int32.zero_add]; rfl
theorem sumF_turn (f : Nat → Int32) (g t : Nat) (h : ∀ j, g ≤ j → j < 500 → f (j + t) = f j) : ∀ d, g + d < 500 → sumF f (g + d) t = sumF f g t := by
  intro d
  induction d with
  | zero => intro _; rfl
  | succ d ih =>
    intro hd
    refine Eq.trans ?_ (ih (by omega))
    have e1 : sumF f (g + d) (1 + t) = f (g + d) + sumF f (g + d + 1) t := sumF_head f (g + d) t
    have e2 : sumF f (g + d) (t + 1) = sumF f (g + d) t + f (g + d + t) := rfl
    rw [h (g + d) (by omega) (by omega), Int32.add_comm] at e2
    rw [Nat.add_comm 1 t, e2] at e1
    exact (Int32.add_right_inj _).mp e1.symm
theorem sumF_turns (f : Nat → Int32) (g t s : Nat) (h : ∀ j, g ≤ j → j < 500 → f (j + t) = f j) (hs : g ≤ s) : ∀ q, s + q * t < 500 → sumF f s (q * t) = nI q * sumF f g t := by
  intro q
  induction q with
  | zero => intro _; rw [Nat.zero_mul]; show (0 : Int32) = nI 0 * _; exact (Int32.zero_mul).symm
  | succ q ih =>
    intro hq
    rw [Nat.succ_mul] at hq ⊢
    rw [sumF_add, ih (by omega), show s + q * t = g + (s + q * t - g) by omega, sumF_turn f g t h _ (by omega), show nI (q + 1) = nI q + 1 from (nI_add q 1).symm, Int32.add_mul, Int32.one_mul]
theorem smT_eq {M : Mm} {r t g a b : Nat} (ht : 2 ≤ t) (ht2 : t ≤ 12) (hg : g ≤ 11) (hab : a ≤ b) (hb : b ≤ 95) (hT : M r 2 = nI t) (hG : M r 3 = nI g) : smT M r t g a b = sumF (fun j => shC M r (nI j)) a (b + 1 - a) := by
  have h0 : ∀ j, j < g → shC M r (nI j) = 0 := fun j hj => by unfold shC; rw [hG, if_pos (nI_lt hj (by omega))]
  have hp : ∀ j, g ≤ j → j < 500 → shC M r (nI (j + t)) = shC M r (nI j) := by
    intro j h1 h2
    unfold shC
    rw [hG, hT, if_neg (nI_nlt (by omega) (by omega)), if_neg (nI_nlt (by omega) (by omega)), pk_sub (by omega), pk_sub (by omega), remC_n ht (by omega) (by omega), remC_n ht (by omega) (by omega), show j + t - g = (j - g) + t by omega, Nat.add_mod_right]
  unfold smT
  generalize hF : (fun j => shC M r (nI j)) = F at *
  have k0 : ∀ j, j < g → F j = 0 := fun j hj => by rw [← hF]; exact h0 j hj
  have kp : ∀ j, g ≤ j → j < 500 → F (j + t) = F j := fun j h1 h2 => by rw [← hF]; exact hp j h1 h2
  by_cases h : b < max a g
  · rw [if_pos h, sumF_zero F a _ (fun j h1 h2 => k0 j (by omega))]
  · rw [if_neg h]
    have hq := Nat.div_add_mod (b - max a g + 1) t
    have hr : (b - max a g + 1) % t < t := Nat.mod_lt _ (by omega)
    generalize (b - max a g + 1) / t = q at hq ⊢
    generalize (b - max a g + 1) % t = m at hq hr ⊢
    rw [Nat.mul_comm] at hq
    rw [show b + 1 - a = (max a g - a) + (q * t + m) by omega, sumF_add, sumF_zero F a _ (fun j h1 h2 => k0 j (by omega)), Int32.zero_add, show a + (max a g - a) = max a g by omega, sumF_add, sumF_turns F g t (max a g) kp (by omega) q (by omega), show max a g + q * t = b + 1 - m by omega]
theorem sto_eq {M : Mm} {r t g b i : Nat} (ht : 2 ≤ t) (ht2 : t ≤ 12) (hg : g ≤ 11) (hb : b ≤ 95) (hT : M r 2 = nI t) (hG : M r 3 = nI g) (h1 : ∀ j, j < i → g + j * t < b) (h2 : b ≤ g + i * t) : stoC (M r) (nI b) = if g + i * t < 96 then nI (g + i * t) else -1 := by
  unfold stoC
  rw [hT, hG]
  have in95 : ∀ v, v < 1000 → ((0 ≤ nI v ∧ nI v ≤ 95) ↔ v < 96) := fun v hv => ⟨fun z => by have := (nI_leI (a := v) (b := 95) (by omega) (by omega)).mp z.2; omega, fun z => ⟨nI_pos' (by omega), (nI_leI (a := v) (b := 95) (by omega) (by omega)).mpr (by omega)⟩⟩
  by_cases h : g < b
  · rw [if_pos (nI_lt h (by omega)), pk_sub (by omega), remC_n ht (by omega) (by omega)]
    have hq := Nat.div_add_mod (b - g) t
    have hr : (b - g) % t < t := Nat.mod_lt _ (by omega)
    generalize (b - g) / t = q at hq
    generalize (b - g) % t = m at hq hr ⊢
    rw [Nat.mul_comm] at hq
    by_cases hm : m = 0
    · have hi : i = q := by
        have a1 : ¬ q < i := fun z => by have := h1 q z; omega
        have a2 : ¬ i < q := fun z => by have := Nat.mul_le_mul_right t (show i + 1 ≤ q from z); rw [Nat.succ_mul] at this; omega
        omega
      rw [hm, if_pos (show nI 0 = 0 from rfl), hi, show g + q * t = b by omega]
      exact if_iff (in95 b (by omega))
    · have hi : i = q + 1 := by
        have a1 : ¬ q + 1 < i := fun z => by have := h1 (q + 1) z; rw [Nat.succ_mul] at this; omega
        have a2 : ¬ i < q + 1 := fun z => by have := Nat.mul_le_mul_right t (show i ≤ q by omega); omega
        omega
      rw [if_neg (nI_ne0 (by omega) (by omega)), pk_sub (by omega), nI_add, hi, Nat.succ_mul, show g + (q * t + t) = b - m + t by omega]
      exact if_iff (in95 _ (by omega))
  · rw [if_neg (nI_nlt (by omega) (by omega))]
    have hi : i = 0 := by
      by_cases q : i = 0
      · exact q
      · have := h1 0 (by omega); omega
    rw [hi, Nat.zero_mul, Nat.add_zero, if_pos (by omega)]

theorem holdS_n (x : Int32) : ∃ w, w ≤ 5 ∧ holdS x = nI w := by
  unfold holdS
  by_cases h : x < 0
  · rw [if_pos h]; exact ⟨0, by omega, rfl⟩
  · rw [if_neg h]
    by_cases h2 : 5 < x
    · rw [if_pos h2]; exact ⟨5, by omega, rfl⟩
    · rw [if_neg h2]
      exact nI_of2 (n := 5) (M := 5) (by decide) h (Int32.not_lt.mp h2)
theorem shR_n (f : Nat → Int32) (c : Nat) (x : Int32) : ∃ w, w ≤ 5 ∧ shR f c x = nI w := by
  rw [shR_hold]
  by_cases h : x - f (24 + c) < 0
  · rw [if_pos h]; exact ⟨0, by omega, rfl⟩
  · rw [if_neg h]; exact holdS_n _
theorem Rel_cp {M : Mm} {r q : Nat} {f : Nat → Int32} (h : Rel M q f) : Rel (cpR M r q) r f := Rel_of (fun x hx => by rw [cpR_in (by omega), show r + x - r = x by omega]) (fun _ _ => rfl) h
