theorem wb_tb (n : Nat) : (lN n).toBitVec = BitVec.ofNat 64 n := rfl
theorem wb_inj {a b : Int64} (h : a.toBitVec = b.toBitVec) : a = b := Int64.toBitVec_inj.mp h
theorem wb_tn {n : Nat} (h : n < 2 ^ 64) : (lN n).toBitVec.toNat = n := by rw [wb_tb, BitVec.toNat_ofNat, Nat.mod_eq_of_lt h]
theorem wb_of (x : Int64) : ∃ n, n < 2 ^ 64 ∧ x = lN n := ⟨x.toBitVec.toNat, x.toBitVec.isLt, wb_inj (by rw [wb_tb]; simp)⟩
theorem wb_cu : ∀ k, k < 64 → ((nI k).toInt64.toUInt64 &&& Int64.toUInt64 63) = UInt64.ofNat k := by decide +kernel
theorem wb_lt2 {a b : Nat} (h : a < b) : 2 ^ a < 2 ^ b := Nat.pow_lt_pow_right (by decide) h
theorem wb_shr {n k : Nat} (hn : n < 2 ^ 64) (hk : k < 64) : ((lN n).toUInt64 >>> ((nI k).toInt64.toUInt64 &&& Int64.toUInt64 63)).toInt64 = lN (n / 2 ^ k) := by
  rw [wb_cu k hk]
  apply wb_inj
  apply BitVec.eq_of_toNat_eq
  show ((lN n).toUInt64 >>> UInt64.ofNat k).toNat = (BitVec.ofNat 64 _).toNat
  have h1 : (UInt64.ofNat k).toNat = k := by
    show (BitVec.ofNat 64 k).toNat = k
    rw [BitVec.toNat_ofNat, Nat.mod_eq_of_lt (by omega)]
  have h2 : (lN n).toUInt64.toNat = n := wb_tn hn
  rw [UInt64.toNat_shiftRight, h1, h2, Nat.mod_eq_of_lt hk, Nat.shiftRight_eq_div_pow, BitVec.toNat_ofNat, Nat.mod_eq_of_lt (Nat.lt_of_le_of_lt (Nat.div_le_self _ _) hn)]
theorem wb_and {a b : Nat} (ha : a < 2 ^ 64) (hb : b < 2 ^ 64) : lN a &&& lN b = lN (a &&& b) := by
  apply wb_inj
  rw [Int64.toBitVec_and, wb_tb, wb_tb, wb_tb]
  apply BitVec.eq_of_toNat_eq
  rw [BitVec.toNat_and, BitVec.toNat_ofNat, BitVec.toNat_ofNat, BitVec.toNat_ofNat, Nat.mod_eq_of_lt ha, Nat.mod_eq_of_lt hb, Nat.mod_eq_of_lt (Nat.and_lt_two_pow _ hb)]
theorem wb_mask {n k : Nat} (hn : n < 2 ^ 64) (hk : k < 64) : lN n &&& lN (2 ^ k - 1) = lN (n % 2 ^ k) := by
  rw [wb_and hn (by have := wb_lt2 hk; omega), Nat.and_two_pow_sub_one_eq_mod]

/-! characters put on the pad: their bytes -/
def byN (n j : Nat) : Nat := n / 2 ^ (8 * j) % 256
theorem by_lt (n j : Nat) : byN n j < 256 := Nat.mod_lt _ (by decide)
theorem by_div (n j : Nat) : n / 2 ^ (8 * (j + 1)) = n / 2 ^ (8 * j) / 256 := by
  rw [Nat.div_div_eq_div_mul, show 8 * (j + 1) = 8 * j + 8 by omega, Nat.pow_add]
theorem lN_0 {m : Nat} (h : m < 2 ^ 64) : lN m = 0 ↔ m = 0 := ⟨fun z => by
  have h1 := congrArg (fun q : Int64 => q.toBitVec.toNat) z
  have h2 : (lN m).toBitVec.toNat = (0 : Int64).toBitVec.toNat := h1
  rw [wb_tn h] at h2
  exact h2, fun z => by rw [z]; rfl⟩
theorem ln_255 {m : Nat} (h : m < 2 ^ 64) : lN m &&& 255 = lN (m % 256) := wb_mask (k := 8) h (by decide)
theorem ln_sh8 {m : Nat} (h : m < 2 ^ 64) : sh8 (lN m) = lN (m / 256) := wb_shr (k := 8) h (by decide)
theorem nI_255 (m : Nat) : nI m &&& 255 = nI (m % 256) := by
  rw [pk_and (nI m) (m := 255) 8 (by decide)]
  have h : (nI m).toBitVec.toNat = m % 2 ^ 32 := BitVec.toNat_ofNat m 32
  rw [h]
  exact congrArg nI (Nat.mod_mod_of_dvd m (by decide : 2 ^ 8 ∣ 2 ^ 32))
theorem cdR_n {n j : Nat} (hn : n < 2 ^ 64) (hj : j < 8) : cdR (lN n) j = nI (byN n j) := by
  unfold cdR byN
  rw [wb_shr hn (by omega), lN_i, nI_255]
theorem div_lt {n : Nat} (hn : n < 2 ^ 64) (k : Nat) : n / 2 ^ k < 2 ^ 64 := Nat.lt_of_le_of_lt (Nat.div_le_self _ _) hn
/-- a character that can stand -/
abbrev okB (n j : Nat) : Prop := 33 ≤ byN n j ∧ byN n j ≤ 126
theorem okB_i {n j : Nat} : (33 ≤ nI (byN n j) ∧ nI (byN n j) ≤ 126) ↔ okB n j := by
  have h := by_lt n j
  exact ⟨fun z => ⟨(nI_leI (a := 33) (by omega) (by omega)).mp z.1, (nI_leI (b := 126) (by omega) (by omega)).mp z.2⟩, fun z => ⟨(nI_leI (a := 33) (by omega) (by omega)).mpr z.1, (nI_leI (b := 126) (by omega) (by omega)).mpr z.2⟩⟩
theorem by_0 {n j : Nat} : nI (byN n j) = 0 ↔ byN n j = 0 := by
  have h := by_lt n j
  exact nI_eq (a := byN n j) (b := 0) (by omega) (by omega)
theorem co_A {n : Nat} (hn : n < 2 ^ 64) : ∀ i, i ≤ 8 → (∀ j, j < i → okB n j) → coF 8 0 (lN n) = coF (8 - i) i (lN (n / 2 ^ (8 * i))) := by
  intro i
  induction i with
  | zero => intro _ _; rw [show 8 * 0 = 0 from rfl, Nat.pow_zero, Nat.div_one]
  | succ i ih =>
    intro hi h
    have ho := h i (by omega)
    have hb := by_lt n i
    rw [ih (by omega) (fun j hj => h j (by omega)), show 8 - i = (8 - (i + 1)) + 1 by omega, coF, ln_255 (div_lt hn _)]
    show (if lN (byN n i) = 0 then _ else if 33 ≤ (lN (byN n i)).toInt32 ∧ (lN (byN n i)).toInt32 ≤ 126 then _ else _) = _
    rw [if_neg (fun z => by have := (lN_0 (by omega)).mp z; omega), lN_i, if_pos (okB_i.mpr ho), ln_sh8 (div_lt hn _), ← by_div]
theorem co_0 {n c : Nat} (hn : n < 2 ^ 64) (hc : c < 8) (h : ∀ j, j < c → okB n j) (h0 : byN n c = 0) : coF 8 0 (lN n) = if n / 2 ^ (8 * c) = 0 then nI c else -1 := by
  rw [co_A hn c (by omega) h, show 8 - c = (8 - (c + 1)) + 1 by omega, coF, ln_255 (div_lt hn _)]
  show (if lN (byN n c) = 0 then _ else _) = _
  rw [h0, if_pos (show lN 0 = 0 from rfl), if_iff (lN_0 (div_lt hn _))]
theorem co_x {n c : Nat} (hn : n < 2 ^ 64) (hc : c < 8) (h : ∀ j, j < c → okB n j) (h0 : ¬ byN n c = 0) (hx : ¬ okB n c) : coF 8 0 (lN n) = -1 := by
  have hb := by_lt n c
  rw [co_A hn c (by omega) h, show 8 - c = (8 - (c + 1)) + 1 by omega, coF, ln_255 (div_lt hn _)]
  show (if lN (byN n c) = 0 then _ else if 33 ≤ (lN (byN n c)).toInt32 ∧ (lN (byN n c)).toInt32 ≤ 126 then _ else _) = _
  rw [if_neg (fun z => h0 ((lN_0 (by omega)).mp z)), lN_i, if_neg (fun z => hx (okB_i.mp z))]
theorem co_8 {n : Nat} (hn : n < 2 ^ 64) (h : ∀ j, j < 8 → okB n j) : coF 8 0 (lN n) = nI 8 := by
  rw [co_A hn 8 (by omega) h, show 8 - 8 = 0 from rfl, coF, if_pos ((lN_0 (div_lt hn _)).mpr (Nat.div_eq_of_lt hn))]
theorem rest_0 {n : Nat} (hn : n < 2 ^ 64) : ∀ d c, c + d = 8 → ((∀ j, c ≤ j → j < 8 → byN n j = 0) ↔ n / 2 ^ (8 * c) = 0) := by
  intro d
  induction d with
  | zero =>
    intro c hc
    rw [show c = 8 by omega]
    exact ⟨fun _ => Nat.div_eq_of_lt hn, fun _ j h1 h2 => absurd h1 (by omega)⟩
  | succ d ih =>
    intro c hc
    have h1 := ih (c + 1) (by omega)
    rw [by_div] at h1
    have hq := Nat.div_add_mod (n / 2 ^ (8 * c)) 256
    have hb : n / 2 ^ (8 * c) % 256 = byN n c := rfl
    rw [hb] at hq
    refine ⟨fun h => ?_, fun h j h2 h3 => ?_⟩
    · have a1 := h1.mp (fun j h2 h3 => h j (by omega) h3)
      have a2 := h c (Nat.le_refl _) (by omega)
      omega
    · by_cases q : j = c
      · rw [q]; omega
      · exact h1.mpr (by rw [h]) j (by omega) h3
/-- the reference's count -/
theorem rf_A {n : Nat} (hn : n < 2 ^ 64) : ∀ i, i ≤ 8 → (∀ j, j < i → okB n j) → enI (lN n) i = 0 ∧ isI (lN n) i = 1 ∧ mnI (lN n) i = nI i := by
  intro i
  induction i with
  | zero => intro _ _; exact ⟨rfl, rfl, rfl⟩
  | succ i ih =>
    intro hi h
    have ho := h i (by omega)
    obtain ⟨e1, e2, e3⟩ := ih (by omega) (fun j hj => h j (by omega))
    have ec := cdR_n hn (show i < 8 by omega)
    have e4 : enI (lN n) (i + 1) = 0 := by
      unfold enI
      rw [e1, ec, if_neg (fun z => z.elim (fun w => w rfl) (fun w => by have := by_0.mp w; omega))]
    refine ⟨e4, isI_b (by rw [e2]; decide) e4 (by rw [ec]; exact okB_i.mpr ho), ?_⟩
    unfold mnI
    rw [e4, e3, if_neg (fun w => w rfl)]
    exact nI_add i 1
theorem rf_en {n c : Nat} (hn : n < 2 ^ 64) (hc : c < 8) (h0 : byN n c = 0) : ∀ i, c < i → i ≤ 8 → enI (lN n) i = 1 := by
  intro i
  induction i with
  | zero => intro h; exact absurd h (by omega)
  | succ i ih =>
    intro h1 h2
    unfold enI
    by_cases q : c = i
    · rw [cdR_n hn (by omega), ← q, h0, if_pos (Or.inr (show nI 0 = 0 from rfl))]
    · rw [ih (by omega) (by omega), if_pos (Or.inl (by decide))]
theorem rf_0 {x : Int64} {i : Nat} (h : isI x i = 0) : ∀ k, i ≤ k → isI x k = 0 := by
  intro k
  induction k with
  | zero => intro q; rw [show (0 : Nat) = i by omega]; exact h
  | succ k ih =>
    intro q
    by_cases w : i = k + 1
    · rw [← w]; exact h
    · exact isI_a (ih (by omega))
theorem rf_c {n c : Nat} (hn : n < 2 ^ 64) (hc : c < 8) (h : ∀ j, j < c → okB n j) (h0 : ∀ j, c ≤ j → j < 8 → byN n j = 0) : ∀ i, c ≤ i → i ≤ 8 → isI (lN n) i = 1 ∧ mnI (lN n) i = nI c := by
  intro i
  induction i with
  | zero => intro q _; rw [show c = 0 by omega]; exact ⟨rfl, rfl⟩
  | succ i ih =>
    intro h1 h2
    by_cases q : c = i + 1
    · rw [← q]; obtain ⟨-, w1, w2⟩ := rf_A hn c (by omega) h; exact ⟨w1, w2⟩
    · obtain ⟨e2, e3⟩ := ih (by omega) (by omega)
      have e4 := rf_en hn hc (h0 c (Nat.le_refl _) hc) (i + 1) (by omega) h2
      refine ⟨isI_d (by rw [e2]; decide) (by rw [e4]; decide) (by rw [cdR_n hn (by omega), h0 i (by omega) (by omega)]; rfl), ?_⟩
      unfold mnI
      rw [e4, e3, if_pos (by decide)]
      exact Int32.add_zero _
theorem first_bad (P : Nat → Prop) : ∀ k, (∀ j, j < k → P j) ∨ ∃ c, c < k ∧ (∀ j, j < c → P j) ∧ ¬ P c := by
  intro k
  induction k with
  | zero => exact Or.inl (fun j h => absurd h (by omega))
  | succ k ih =>
    rcases ih with h | ⟨c, h1, h2, h3⟩
    · by_cases q : P k
      · exact Or.inl (fun j hj => by by_cases w : j = k; (rw [w]; exact q); exact h j (by omega))
      · exact Or.inr ⟨k, by omega, h, q⟩
    · exact Or.inr ⟨c, by omega, h2, h3⟩
/-- how many characters: the same on both sides -/
theorem co_hm (x : Int64) : (∃ c, c ≤ 8 ∧ coF 8 0 x = nI c ∧ hmF x = nI c) ∨ (coF 8 0 x = -1 ∧ hmF x = 0) := by
  obtain ⟨n, hn, rfl⟩ := wb_of x
  rcases first_bad (fun j => okB n j) 8 with h | ⟨c, hc, h, hx⟩
  · obtain ⟨-, e2, e3⟩ := rf_A hn 8 (by omega) h
    exact Or.inl ⟨8, by omega, co_8 hn h, by rw [hmF_1 (by rw [e2]; decide), e3]⟩
  · by_cases h0 : byN n c = 0
    · have hr := rest_0 hn (8 - c) c (by omega)
      by_cases hz : n / 2 ^ (8 * c) = 0
      · obtain ⟨e2, e3⟩ := rf_c hn hc h (hr.mpr hz) 8 (by omega) (by omega)
        exact Or.inl ⟨c, by omega, by rw [co_0 hn hc h h0, if_pos hz], by rw [hmF_1 (by rw [e2]; decide), e3]⟩
      · refine Or.inr ⟨by rw [co_0 hn hc h h0, if_neg hz], ?_⟩
        rcases first_bad (fun j => c ≤ j → byN n j = 0) 8 with w | ⟨d, hd, -, w⟩
        · exact absurd (hr.mp (fun j h1 h2 => w j h2 h1)) hz
        · have hcd : c ≤ d := Decidable.byContradiction (fun q => w (fun z => absurd z q))
          have hd0 : ¬ byN n d = 0 := fun q => w (fun _ => q)
          have hne : c ≠ d := fun q => hd0 (by rw [← q]; exact h0)
          exact hmF_0 (rf_0 (isI_e (by rw [rf_en hn hc h0 (d + 1) (by omega) (by omega)]; decide) (by rw [cdR_n hn hd]; exact fun q => hd0 (by_0.mp q))) 8 (by omega))
    · refine Or.inr ⟨co_x hn hc h h0 hx, ?_⟩
      obtain ⟨e1, e2, e3⟩ := rf_A hn c (by omega) h
      have e4 : enI (lN n) (c + 1) = 0 := by
        unfold enI
        rw [e1, cdR_n hn hc, if_neg (fun z => z.elim (fun w => w rfl) (fun w => h0 (by_0.mp w)))]
      exact hmF_0 (rf_0 (isI_c e4 (by rw [cdR_n hn hc]; exact fun q => hx (okB_i.mp q))) 8 (by omega))
/-- the characters put are the same -/
theorem ch_ct (x : Int64) {k : Nat} (hk : k < 8) : chB x (nI k) = ctR x (nI (8 * k)) := by
  obtain ⟨n, hn, rfl⟩ := wb_of x
  unfold chB ctR
  rw [show (8 : Int32) * nI k = nI (8 * k) from pk_mul 8 k, wb_shr hn (by omega), ln_255 (div_lt hn _), lN_i, lN_i, nI_255]
  have hb : n / 2 ^ (8 * k) % 256 < 256 := Nat.mod_lt _ (by decide)
  generalize n / 2 ^ (8 * k) % 256 = b at hb ⊢
  rw [pk_char, pk_tn (by omega), Nat.mod_eq_of_lt (by omega)]
theorem ap_wt (x : Int64) {c L : Nat} {f g : Nat → Int32} (hc : c ≤ 8) (h : ∀ j, j < L → f j = g j) : ∀ i, i ≤ c → ∀ j, j < L + i → apS x c L f i j = wtR x c L g i j := by
  intro i
  induction i with
  | zero => intro _ j hj; exact h j (by omega)
  | succ i ih =>
    intro hi j hj
    unfold apS wtR
    by_cases q : j = L + i
    · rw [q, upd_at, upd_at, show nI (c - i) - 1 = nI (c - i - 1) from pk_sub (a := c - i) (b := 1) (by omega), ch_ct x (by omega), show nI (8 * (c - i)) - 8 = nI (8 * (c - i) - 8) from pk_sub (a := 8 * (c - i)) (b := 8) (by omega), show 8 * (c - i) - 8 = 8 * (c - i - 1) by omega]
    · rw [upd_ne _ _ q, upd_ne _ _ q]; exact ih (by omega) j (by omega)
