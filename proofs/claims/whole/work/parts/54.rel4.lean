
/-! the chimneys to watch: by picking, by sets, and the reference's picking -/
abbrev bt0 (x : Int32) (i : Nat) : Prop := (x >>> (nI i &&& 31)) &&& 1 = 0
abbrev bt1 (x : Int32) (i : Nat) : Prop := (x >>> (nI i &&& 31)) &&& 1 = 1
theorem bt_or : ∀ m, m < 256 → ∀ b, b < 8 → (nI m ||| ((1 : Int32) <<< (nI b &&& 31)) = nI (m ||| 1 <<< b) ∧ m ||| 1 <<< b < 256) := by decide +kernel
theorem bt_in : ∀ m, m < 256 → ∀ b, b < 8 → ∀ i, i < 8 → (decide (bt0 (nI (m ||| 1 <<< b)) i) = (decide (bt0 (nI m) i) && decide (i ≠ b))) := by decide +kernel
theorem bt_0 : ∀ i, i < 8 → bt0 (nI 0) i := by decide +kernel
theorem bt_t : ∀ m, m < 256 → ∀ i, i < 8 → decide (bt1 (nI m) i) = m.testBit i := by decide +kernel
theorem m3_eq : ∀ a, a < 8 → ∀ b, b < 8 → ∀ c, c < 8 → (decide (a = b) || decide (a = c) || decide (b = c) || (decide ((0 ||| 1 <<< a ||| 1 <<< b ||| 1 <<< c) = 2 ^ a + 2 ^ b + 2 ^ c) && decide (2 ^ a + 2 ^ b + 2 ^ c < 256) && decide (bcF (nI (2 ^ a + 2 ^ b + 2 ^ c)) = 3))) = true := by decide +kernel
theorem m3_bits : ∀ a, a < 8 → ∀ b, b < 8 → ∀ c, c < 8 → ∀ j, j < 8 → (decide (a = b) || decide (a = c) || decide (b = c) || ((2 ^ a + 2 ^ b + 2 ^ c).testBit j == (decide (j = a) || decide (j = b) || decide (j = c)))) = true := by decide +kernel
def is3 (i : Nat) : Bool := !decide (bcF (nI i) = 3) || ((List.range 8).any fun a => (List.range 8).any fun b => (List.range 8).any fun c => decide (a < b) && decide (b < c) && decide (i = 2 ^ a + 2 ^ b + 2 ^ c))
theorem is3_all : (List.range 256).all is3 = true := by decide +kernel
theorem is3_of {i : Nat} (hi : i < 256) (h : bcF (nI i) = 3) : ∃ a b c, a < b ∧ b < c ∧ c < 8 ∧ i = 2 ^ a + 2 ^ b + 2 ^ c := by
  have q := List.all_eq_true.mp is3_all i (List.mem_range.mpr hi)
  unfold is3 at q
  rw [decide_eq_true h, Bool.not_true, Bool.false_or] at q
  obtain ⟨a, ha, q⟩ := List.any_eq_true.mp q
  obtain ⟨b, hb, q⟩ := List.any_eq_true.mp q
  obtain ⟨c, hc, q⟩ := List.any_eq_true.mp q
  simp only [Bool.and_eq_true, decide_eq_true_eq] at q
  exact ⟨a, b, c, q.1.1, q.1.2, List.mem_range.mp hc, q.2⟩
/-- a sum over a set of bits -/
def wS (p : Nat → Bool) (v : Nat → Nat) : Nat → Nat
  | 0 => 0
  | k + 1 => wS p v k + (if p k = true then v k else 0)
theorem wS_3 {p : Nat → Bool} {v : Nat → Nat} {a b c : Nat} (hab : a < b) (hbc : b < c) (hp : ∀ j, j < 8 → p j = (decide (j = a) || decide (j = b) || decide (j = c))) : ∀ k, k ≤ 8 → wS p v k = (if a < k then v a else 0) + (if b < k then v b else 0) + (if c < k then v c else 0) := by
  intro k
  induction k with
  | zero => intro _; rw [if_neg (by omega), if_neg (by omega), if_neg (by omega)]; rfl
  | succ k ih =>
    intro hk
    unfold wS
    rw [ih (by omega), hp k (by omega)]
    by_cases h1 : k = a
    · subst h1
      rw [if_neg (show ¬ k < k by omega), if_neg (show ¬ b < k by omega), if_neg (show ¬ c < k by omega), if_pos (show k < k + 1 by omega), if_neg (show ¬ b < k + 1 by omega), if_neg (show ¬ c < k + 1 by omega), if_pos (by simp)]
      omega
    · by_cases h2 : k = b
      · subst h2
        rw [if_pos (show a < k by omega), if_neg (show ¬ k < k by omega), if_neg (show ¬ c < k by omega), if_pos (show a < k + 1 by omega), if_pos (show k < k + 1 by omega), if_neg (show ¬ c < k + 1 by omega), if_pos (by simp)]
        omega
      · by_cases h3 : k = c
        · subst h3
          rw [if_pos (show a < k by omega), if_pos (show b < k by omega), if_neg (show ¬ k < k by omega), if_pos (show a < k + 1 by omega), if_pos (show b < k + 1 by omega), if_pos (show k < k + 1 by omega), if_pos (by simp)]
          omega
        · rw [if_neg (show ¬ (decide (k = a) || decide (k = b) || decide (k = c)) = true by simp [h1, h2, h3])]
          rw [if_iff (show a < k + 1 ↔ a < k by omega), if_iff (show b < k + 1 ↔ b < k by omega), if_iff (show c < k + 1 ↔ c < k by omega)]
          rfl
theorem sos_w {f : Nat → Int32} {v : Nat → Nat} {m : Nat} (hm : m < 256) (hf : ∀ j, j < 8 → f j = nI (v j)) : ∀ k, k ≤ 8 → sosF f (nI m) k = nI (wS m.testBit v k) := by
  intro k
  induction k with
  | zero => intro _; rfl
  | succ k ih =>
    intro hk
    have ht := bt_t m hm k (by omega)
    unfold sosF wS
    rw [ih (by omega), hf k (by omega)]
    by_cases h : bt1 (nI m) k
    · rw [if_pos h, if_pos (by rw [← ht]; exact decide_eq_true h)]; exact nI_add _ _
    · rw [if_neg h, if_neg (by rw [← ht]; exact fun z => h (of_decide_eq_true z)), Nat.add_zero]
theorem sos_3 {f : Nat → Int32} {v : Nat → Nat} {a b c : Nat} (hab : a < b) (hbc : b < c) (hc : c < 8) (hf : ∀ j, j < 8 → f j = nI (v j)) : sosF f (nI (2 ^ a + 2 ^ b + 2 ^ c)) 8 = nI (v a + v b + v c) := by
  have h3 := m3_eq a (by omega) b (by omega) c hc
  rw [decide_eq_false (by omega), decide_eq_false (by omega), decide_eq_false (by omega)] at h3
  simp only [Bool.false_or, Bool.and_eq_true, decide_eq_true_eq] at h3
  rw [sos_w h3.1.2 hf 8 (Nat.le_refl _), wS_3 hab hbc (fun j hj => ?_) 8 (Nat.le_refl _), if_pos (by omega), if_pos (by omega), if_pos hc]
  have h4 := m3_bits a (by omega) b (by omega) c hc j hj
  rw [decide_eq_false (by omega : ¬ a = b), decide_eq_false (by omega : ¬ a = c), decide_eq_false (by omega : ¬ b = c)] at h4
  simp only [Bool.false_or, beq_iff_eq] at h4
  exact h4
/-- the greatest, the first of those -/
theorem pbR_max (g : Nat → Int32) : ∀ i, 1 ≤ i → pbR g i < i ∧ ∀ j, j < i → (g j).toInt ≤ (g (pbR g i)).toInt ∧ ((g j).toInt = (g (pbR g i)).toInt → pbR g i ≤ j) := by
  intro i
  induction i with
  | zero => intro h; exact absurd h (by omega)
  | succ i ih =>
    intro _
    unfold pbR
    by_cases h0 : i = 0
    · rw [if_pos h0]
      exact ⟨by omega, fun j hj => by rw [show j = 0 by omega]; exact ⟨Int.le_refl _, fun _ => Nat.le_refl _⟩⟩
    · rw [if_neg h0]
      obtain ⟨hp, h⟩ := ih (by omega)
      by_cases q : g (pbR g i) < g i
      · rw [if_pos q]
        rw [Int32.lt_iff_toInt_lt] at q
        refine ⟨by omega, fun j hj => ?_⟩
        by_cases hji : j = i
        · rw [hji]; exact ⟨Int.le_refl _, fun _ => Nat.le_refl _⟩
        · have := (h j (by omega)).1
          exact ⟨by omega, fun z => by omega⟩
      · rw [if_neg q]
        rw [Int32.lt_iff_toInt_lt] at q
        refine ⟨by omega, fun j hj => ?_⟩
        by_cases hji : j = i
        · rw [hji]; exact ⟨by omega, fun z => by omega⟩
        · exact h j (by omega)
theorem soO_pb {S g : Nat → Int32} {m : Nat} (hS : ∀ i, i < 8 → (-1 : Int32) < S i) (hg : ∀ i, i < 8 → (bt0 (nI m) i ∧ g i = S i) ∨ (¬ bt0 (nI m) i ∧ g i = -1)) : ∀ i, 1 ≤ i → i ≤ 8 → soO S (nI m) i = (nI (pbR g i), g (pbR g i)) := by
  intro i
  induction i with
  | zero => intro h; exact absurd h (by omega)
  | succ i ih =>
    intro _ hi
    unfold soO pbR
    by_cases h0 : i = 0
    · subst h0
      rw [if_pos (rfl : (0 : Nat) = 0)]
      rcases hg 0 (by omega) with ⟨q1, q2⟩ | ⟨q1, q2⟩
      · rw [if_pos ⟨q1, hS 0 (by omega)⟩, q2]
      · rw [if_neg (fun z => q1 z.1), q2]; rfl
    · rw [if_neg h0, ih (by omega) (by omega)]
      rcases hg i (by omega) with ⟨q1, q2⟩ | ⟨q1, q2⟩
      · rw [q2]
        by_cases w : g (pbR g i) < S i
        · rw [if_pos ⟨q1, w⟩, if_pos w, q2]
        · rw [if_neg (fun z => w z.2), if_neg w]
      · rw [if_neg (fun z => q1 z.1), q2]
        have hp := (pbR_max g i (by omega)).1
        have hm : ¬ g (pbR g i) < -1 := by
          rcases hg (pbR g i) (by omega) with ⟨-, w⟩ | ⟨-, w⟩
          · rw [w]; exact i_lt_asymm (hS _ (by omega))
          · rw [w]; exact Int32.lt_irrefl
        rw [if_neg hm]
/-- one pick, on both sides: S the sums, g the reference's row, m the set so far -/
def pkI (v : Nat → Nat) (m : Nat) (g : Nat → Int32) : Prop := m < 256 ∧ ∀ i, i < 8 → (bt0 (nI m) i ∧ g i = nI (v i)) ∨ (¬ bt0 (nI m) i ∧ g i = -1)
theorem pk_step {v : Nat → Nat} {m : Nat} {g : Nat → Int32} (h : pkI v m g) : pkI v (m ||| 1 <<< pbR g 8) (upd g (pbR g 8) (-1)) := by
  have hp := (pbR_max g 8 (by omega)).1
  refine ⟨(bt_or m h.1 _ hp).2, fun i hi => ?_⟩
  have hb := bt_in m h.1 _ hp i hi
  by_cases q : i = pbR g 8
  · refine Or.inr ⟨fun z => ?_, by rw [← q]; exact upd_at _ _ _⟩
    rw [decide_eq_true z, decide_eq_false (show ¬ (i ≠ pbR g 8) from fun w => w q), Bool.and_false] at hb
    exact absurd hb (by decide)
  · rw [upd_ne _ _ q]
    rw [decide_eq_true q, Bool.and_true] at hb
    rcases h.2 i hi with ⟨q1, q2⟩ | ⟨q1, q2⟩
    · rw [decide_eq_true q1] at hb; exact Or.inl ⟨of_decide_eq_true hb, q2⟩
    · rw [decide_eq_false q1] at hb; exact Or.inr ⟨of_decide_eq_false hb, q2⟩
theorem nI_neg1 {w : Nat} (h : w < 2 ^ 31) : (-1 : Int32) < nI w := Int32.lt_of_lt_of_le (show (-1 : Int32) < 0 by decide) (nI_pos' h)
/-- what is picked: unpicked so far, the greatest of the unpicked, the first of those -/
theorem pk_max {v : Nat → Nat} {m : Nat} {g : Nat → Int32} (hv : ∀ i, i < 8 → v i < 100000) (h : pkI v m g) {u : Nat} (hu : u < 8) (hu0 : bt0 (nI m) u) : pbR g 8 < 8 ∧ bt0 (nI m) (pbR g 8) ∧ ∀ j, j < 8 → bt0 (nI m) j → v j ≤ v (pbR g 8) ∧ (v j = v (pbR g 8) → pbR g 8 ≤ j) := by
  obtain ⟨hp, hm⟩ := pbR_max g 8 (by omega)
  have gv : ∀ j, j < 8 → bt0 (nI m) j → (g j).toInt = (v j : Int) := by
    intro j hj q
    rcases h.2 j hj with ⟨-, q2⟩ | ⟨q1, -⟩
    · rw [q2]; exact nI_toInt (by have := hv j hj; omega)
    · exact absurd q q1
  have hb : bt0 (nI m) (pbR g 8) := by
    rcases h.2 (pbR g 8) hp with ⟨q1, -⟩ | ⟨-, q2⟩
    · exact q1
    · have h1 := (hm u hu).1
      rw [gv u hu hu0, q2, show (-1 : Int32).toInt = -1 by decide] at h1
      omega
  refine ⟨hp, hb, fun j hj q => ?_⟩
  have h1 := hm j hj
  rw [gv j hj q, gv _ hp hb] at h1
  exact ⟨by omega, fun z => h1.2 (by omega)⟩
theorem pow_8 {j : Nat} (h : j < 8) : 1 ≤ 2 ^ j ∧ 2 ^ j ≤ 128 := ⟨Nat.one_le_two_pow, by
  have := Nat.pow_le_pow_right (n := 2) (by omega) (show j ≤ 7 by omega)
  omega⟩
/-- the key by which sets are compared -/
def kyF (v : Nat → Nat) (j : Nat) : Nat := 1024 * v j + 256 - 2 ^ j
theorem ky_le {v : Nat → Nat} {j b : Nat} (hj : j < 8) (hb : b < 8) (h : v j ≤ v b ∧ (v j = v b → b ≤ j)) : kyF v j ≤ kyF v b := by
  unfold kyF
  have h1 := pow_8 hj
  have h2 := pow_8 hb
  by_cases q : v j = v b
  · have h3 := Nat.pow_le_pow_right (n := 2) (by omega) (h.2 q)
    rw [q]; omega
  · have := h.1; omega
theorem ky_3 {v : Nat → Nat} {b1 b2 b3 a b c : Nat} (h1 : ∀ j, j < 8 → kyF v j ≤ kyF v b1) (h2 : ∀ j, j < 8 → j ≠ b1 → kyF v j ≤ kyF v b2) (h3 : ∀ j, j < 8 → j ≠ b1 → j ≠ b2 → kyF v j ≤ kyF v b3) (hb12 : kyF v b2 ≤ kyF v b1) (hb23 : kyF v b3 ≤ kyF v b2) (ha : a < 8) (hb : b < 8) (hc : c < 8) (hab : a ≠ b) (hac : a ≠ c) (hbc : b ≠ c) : kyF v a + kyF v b + kyF v c ≤ kyF v b1 + kyF v b2 + kyF v b3 := by
  have g1 : ∀ j, j < 8 → (j = b1 ∧ kyF v j = kyF v b1) ∨ (j = b2 ∧ kyF v j = kyF v b2) ∨ kyF v j ≤ kyF v b3 := by
    intro j hj
    by_cases q1 : j = b1
    · exact Or.inl ⟨q1, by rw [q1]⟩
    · by_cases q2 : j = b2
      · exact Or.inr (Or.inl ⟨q2, by rw [q2]⟩)
      · exact Or.inr (Or.inr (h3 j hj q1 q2))
  have a1 := h1 a ha
  have a2 := g1 a ha
  have b1' := h1 b hb
  have b2' := g1 b hb
  have c1 := h1 c hc
  have c2 := g1 c hc
  rcases a2 with ⟨x1, x2⟩ | ⟨x1, x2⟩ | x2 <;> rcases b2' with ⟨y1, y2⟩ | ⟨y1, y2⟩ | y2 <;> rcases c2 with ⟨w1, w2⟩ | ⟨w1, w2⟩ | w2 <;> omega
theorem sb_max {f : Nat → Int32} {W : Nat → Nat} {m : Nat} (hm : m < 256) (hb : bcF (nI m) = 3) (hW : ∀ i, i < 256 → bcF (nI i) = 3 → sosF f (nI i) 8 = nI (W i) ∧ W i < 1000000) (h : ∀ i, i < 256 → bcF (nI i) = 3 → W i < W m ∨ (W i = W m ∧ m ≤ i)) : ∀ i, i ≤ 256 → (i ≤ m → (sbF f i).2 < nI (W m)) ∧ (m < i → sbF f i = (nI m, nI (W m))) := by
  obtain ⟨wm, wm2⟩ := hW m hm hb
  intro i
  induction i with
  | zero => intro _; exact ⟨fun _ => nI_neg1 (by omega), fun q => absurd q (by omega)⟩
  | succ i ih =>
    intro hi
    obtain ⟨i1, i2⟩ := ih (by omega)
    unfold sbF
    refine ⟨fun q => ?_, fun q => ?_⟩
    · by_cases w : bcF (nI i) = 3 ∧ (sbF f i).2 < sosF f (nI i) 8
      · rw [if_pos w]
        obtain ⟨e, e2⟩ := hW i (by omega) w.1
        show sosF f (nI i) 8 < nI (W m)
        rw [e]
        rcases h i (by omega) w.1 with z | ⟨-, z⟩
        · exact (nI_ltI (by omega) (by omega)).mpr z
        · exact absurd z (by omega)
      · rw [if_neg w]; exact i1 (by omega)
    · by_cases hmi : i = m
      · subst hmi
        rw [if_pos ⟨hb, by rw [wm]; exact i1 (Nat.le_refl _)⟩, wm]
      · rw [i2 (by omega)]
        by_cases w : bcF (nI i) = 3
        · obtain ⟨e, e2⟩ := hW i (by omega) w
          refine if_neg (fun z => ?_)
          have z2 : nI (W m) < nI (W i) := by rw [← e]; exact z.2
          have z3 := (nI_ltI (by omega) (by omega)).mp z2
          rcases h i (by omega) w with q2 | ⟨q2, -⟩ <;> omega
        · exact if_neg (fun z => w z.1)
theorem tw_eq {S R : Nat → Int32} {v : Nat → Nat} (hv : ∀ i, i < 8 → v i < 100000) (hS : ∀ i, i < 8 → S i = nI (v i)) (hR : ∀ i, i < 8 → R i = nI (v i)) : spF S 3 = (ptR R 3).1 ∧ (sbF S 256).1 = (ptR R 3).1 := by
  have hSp : ∀ i, i < 8 → (-1 : Int32) < S i := fun i hi => by rw [hS i hi]; exact nI_neg1 (by have := hv i hi; omega)
  have fix : ∀ {m : Nat} {g : Nat → Int32}, pkI v m g → (soO S (nI m) 8).1 = nI (pbR g 8) := fun {m g} h => by
    rw [soO_pb hSp (fun i hi => by rw [hS i hi]; exact h.2 i hi) 8 (by omega) (by omega)]
  have k0 : pkI v 0 R := ⟨by omega, fun i hi => Or.inl ⟨bt_0 i hi, hR i hi⟩⟩
  have k1 := pk_step k0
  have k2 := pk_step k1
  obtain ⟨p1, -, x1⟩ := pk_max hv k0 (u := 0) (by omega) (bt_0 0 (by omega))
  have un1 : ∀ j, j < 8 → j ≠ pbR R 8 → bt0 (nI (0 ||| 1 <<< pbR R 8)) j := fun j hj q => by
    have := bt_in 0 (by omega) _ p1 j hj
    rw [decide_eq_true (bt_0 j hj), decide_eq_true q] at this
    exact of_decide_eq_true this
  have in1 : ∀ j, j < 8 → bt0 (nI (0 ||| 1 <<< pbR R 8)) j → j ≠ pbR R 8 := fun j hj q w => by
    have := bt_in 0 (by omega) _ p1 j hj
    rw [decide_eq_true q, decide_eq_false (show ¬ (j ≠ pbR R 8) from fun z => z w), Bool.and_false] at this
    exact absurd this (by decide)
  have e0 : spF S 0 = nI 0 := rfl
  have e1 : spF S 1 = nI (0 ||| 1 <<< pbR R 8) := by
    show spF S 0 ||| ((1 : Int32) <<< ((soO S (spF S 0) 8).1 &&& 31)) = _
    rw [e0, fix k0]; exact (bt_or 0 (by omega) _ p1).1
  have f1 : (ptR R 1).1 = nI (0 ||| 1 <<< pbR R 8) := (bt_or 0 (by omega) _ p1).1
  generalize hb1 : pbR R 8 = b1 at *
  have hu : ∃ u, u < 8 ∧ u ≠ b1 := by
    by_cases q : b1 = 0
    · exact ⟨1, by omega, by omega⟩
    · exact ⟨0, by omega, fun z => q z.symm⟩
  obtain ⟨u, hu8, hub⟩ := hu
  obtain ⟨p2, y0, x2⟩ := pk_max hv k1 (u := u) hu8 (un1 u hu8 hub)
  have q12 := in1 _ p2 y0
  have un2 : ∀ j, j < 8 → j ≠ b1 → j ≠ pbR (upd R b1 (-1)) 8 → bt0 (nI (0 ||| 1 <<< b1 ||| 1 <<< pbR (upd R b1 (-1)) 8)) j := fun j hj q q2 => by
    have := bt_in _ k1.1 _ p2 j hj
    rw [decide_eq_true (un1 j hj q), decide_eq_true q2] at this
    exact of_decide_eq_true this
  have in2 : ∀ j, j < 8 → bt0 (nI (0 ||| 1 <<< b1 ||| 1 <<< pbR (upd R b1 (-1)) 8)) j → j ≠ b1 ∧ j ≠ pbR (upd R b1 (-1)) 8 := fun j hj q => by
    have := bt_in _ k1.1 _ p2 j hj
    rw [decide_eq_true q] at this
    have h2 := this.symm
    simp only [Bool.and_eq_true, decide_eq_true_eq] at h2
    exact ⟨in1 j hj h2.1, h2.2⟩
  have e2 : spF S 2 = nI (0 ||| 1 <<< b1 ||| 1 <<< pbR (upd R b1 (-1)) 8) := by
    show spF S 1 ||| ((1 : Int32) <<< ((soO S (spF S 1) 8).1 &&& 31)) = _
    rw [e1, fix k1]; exact (bt_or _ k1.1 _ p2).1
  have r1 : (ptR R 1).2 = upd R b1 (-1) := by rw [← hb1]; rfl
  have f2 : (ptR R 2).1 = nI (0 ||| 1 <<< b1 ||| 1 <<< pbR (upd R b1 (-1)) 8) := by
    show (ptR R 1).1 ||| ((1 : Int32) <<< (nI (pbR (ptR R 1).2 8) &&& 31)) = _
    rw [f1, r1]; exact (bt_or _ k1.1 _ p2).1
  have r2 : (ptR R 2).2 = upd (upd R b1 (-1)) (pbR (upd R b1 (-1)) 8) (-1) := by
    show upd (ptR R 1).2 (pbR (ptR R 1).2 8) (-1) = _
    rw [r1]
  generalize hb2 : pbR (upd R b1 (-1)) 8 = b2 at *
  have hu2 : ∃ u, u < 8 ∧ u ≠ b1 ∧ u ≠ b2 := by
    by_cases q0 : b1 ≠ 0 ∧ b2 ≠ 0
    · exact ⟨0, by omega, by omega, by omega⟩
    · by_cases q1 : b1 ≠ 1 ∧ b2 ≠ 1
      · exact ⟨1, by omega, by omega, by omega⟩
      · exact ⟨2, by omega, by omega, by omega⟩
  obtain ⟨u2, hu28, hu2a, hu2b⟩ := hu2
  obtain ⟨p3, y3, x3⟩ := pk_max hv k2 (u := u2) hu28 (un2 u2 hu28 hu2a hu2b)
  obtain ⟨q13, q23⟩ := in2 _ p3 y3
  have e3 : spF S 3 = nI (0 ||| 1 <<< b1 ||| 1 <<< b2 ||| 1 <<< pbR (upd (upd R b1 (-1)) b2 (-1)) 8) := by
    show spF S 2 ||| ((1 : Int32) <<< ((soO S (spF S 2) 8).1 &&& 31)) = _
    rw [e2, fix k2]; exact (bt_or _ k2.1 _ p3).1
  have f3 : (ptR R 3).1 = nI (0 ||| 1 <<< b1 ||| 1 <<< b2 ||| 1 <<< pbR (upd (upd R b1 (-1)) b2 (-1)) 8) := by
    show (ptR R 2).1 ||| ((1 : Int32) <<< (nI (pbR (ptR R 2).2 8) &&& 31)) = _
    rw [f2, r2]; exact (bt_or _ k2.1 _ p3).1
  generalize hb3 : pbR (upd (upd R b1 (-1)) b2 (-1)) 8 = b3 at *
  refine ⟨e3.trans f3.symm, ?_⟩
  have h3 := m3_eq b1 p1 b2 p2 b3 p3
  rw [decide_eq_false (fun z => q12 z.symm), decide_eq_false (fun z => q13 z.symm), decide_eq_false (fun z => q23 z.symm)] at h3
  simp only [Bool.false_or, Bool.and_eq_true, decide_eq_true_eq] at h3
  obtain ⟨⟨m1, m2⟩, m3⟩ := h3
  rw [f3, m1]
  have ky1 : ∀ j, j < 8 → kyF v j ≤ kyF v b1 := fun j hj => ky_le hj p1 (x1 j hj (bt_0 j hj))
  have ky2 : ∀ j, j < 8 → j ≠ b1 → kyF v j ≤ kyF v b2 := fun j hj q => ky_le hj p2 (x2 j hj (un1 j hj q))
  have ky3 : ∀ j, j < 8 → j ≠ b1 → j ≠ b2 → kyF v j ≤ kyF v b3 := fun j hj q q2 => ky_le hj p3 (x3 j hj (un2 j hj q q2))
  -- the sum of a set
  have wB : ∀ a b c, a < 8 → b < 8 → c < 8 → a ≠ b → a ≠ c → b ≠ c → sosF S (nI (2 ^ a + 2 ^ b + 2 ^ c)) 8 = nI (v a + v b + v c) := by
    intro a b c ha hb hc hab hac hbc
    rcases (show (a < b ∧ b < c) ∨ (a < c ∧ c < b) ∨ (b < a ∧ a < c) ∨ (b < c ∧ c < a) ∨ (c < a ∧ a < b) ∨ (c < b ∧ b < a) by omega) with ⟨o1, o2⟩ | ⟨o1, o2⟩ | ⟨o1, o2⟩ | ⟨o1, o2⟩ | ⟨o1, o2⟩ | ⟨o1, o2⟩
    · exact sos_3 o1 o2 hc hS
    · rw [show 2 ^ a + 2 ^ b + 2 ^ c = 2 ^ a + 2 ^ c + 2 ^ b by omega, show v a + v b + v c = v a + v c + v b by omega]; exact sos_3 o1 o2 hb hS
    · rw [show 2 ^ a + 2 ^ b + 2 ^ c = 2 ^ b + 2 ^ a + 2 ^ c by omega, show v a + v b + v c = v b + v a + v c by omega]; exact sos_3 o1 o2 hc hS
    · rw [show 2 ^ a + 2 ^ b + 2 ^ c = 2 ^ b + 2 ^ c + 2 ^ a by omega, show v a + v b + v c = v b + v c + v a by omega]; exact sos_3 o1 o2 ha hS
    · rw [show 2 ^ a + 2 ^ b + 2 ^ c = 2 ^ c + 2 ^ a + 2 ^ b by omega, show v a + v b + v c = v c + v a + v b by omega]; exact sos_3 o1 o2 hb hS
    · rw [show 2 ^ a + 2 ^ b + 2 ^ c = 2 ^ c + 2 ^ b + 2 ^ a by omega, show v a + v b + v c = v c + v b + v a by omega]; exact sos_3 o1 o2 ha hS
  have wN : ∀ i, i < 256 → bcF (nI i) = 3 → sosF S (nI i) 8 = nI (wS i.testBit v 8) ∧ wS i.testBit v 8 < 1000000 ∧ ∃ a b c, a < b ∧ b < c ∧ c < 8 ∧ i = 2 ^ a + 2 ^ b + 2 ^ c ∧ wS i.testBit v 8 = v a + v b + v c := by
    intro i hi h
    obtain ⟨a, b, c, hab, hbc, hc, e⟩ := is3_of hi h
    have s1 := sos_w hi hS 8 (Nat.le_refl _)
    have s2 := sos_3 (v := v) hab hbc hc hS
    have hw : wS i.testBit v 8 = v a + v b + v c := by
      rw [wS_3 hab hbc (fun j hj => ?_) 8 (Nat.le_refl _), if_pos (by omega), if_pos (by omega), if_pos hc]
      have h4 := m3_bits a (by omega) b (by omega) c hc j hj
      rw [decide_eq_false (by omega : ¬ a = b), decide_eq_false (by omega : ¬ a = c), decide_eq_false (by omega : ¬ b = c)] at h4
      simp only [Bool.false_or, beq_iff_eq] at h4
      rw [e]; exact h4
    have := hv a (by omega)
    have := hv b (by omega)
    have := hv c (by omega)
    exact ⟨s1, by omega, a, b, c, hab, hbc, hc, e, hw⟩
  obtain ⟨-, -, a0, b0, c0, o1, o2, o3, o4, o5⟩ := wN _ m2 m3
  -- the greatest sum is that of the picked
  have hB : wS (2 ^ b1 + 2 ^ b2 + 2 ^ b3).testBit v 8 = v b1 + v b2 + v b3 := by
    have s1 := sos_w m2 hS 8 (Nat.le_refl _)
    rw [wB b1 b2 b3 p1 p2 p3 (fun z => q12 z.symm) (fun z => q13 z.symm) (fun z => q23 z.symm)] at s1
    have := hv b1 p1
    have := hv b2 p2
    have := hv b3 p3
    have := hv a0 (by omega)
    have := hv b0 (by omega)
    have := hv c0 (by omega)
    exact (nI_inj (by omega) (by omega) s1).symm
  have big := sb_max (f := S) (W := fun i => wS i.testBit v 8) m2 m3 (fun i hi h => ⟨(wN i hi h).1, (wN i hi h).2.1⟩) (fun i hi h => by
    obtain ⟨-, -, a, b, c, hab, hbc, hc, e, hw⟩ := wN i hi h
    have k3 := ky_3 ky1 ky2 ky3 (ky1 _ p2) (ky2 _ p3 q13) (show a < 8 by omega) (show b < 8 by omega) hc (by omega) (by omega) (by omega)
    show wS i.testBit v 8 < wS _ v 8 ∨ _
    rw [hw, hB]
    have z1 := pow_8 (show a < 8 by omega)
    have z2 := pow_8 (show b < 8 by omega)
    have z3 := pow_8 hc
    have z4 := pow_8 p1
    have z5 := pow_8 p2
    have z6 := pow_8 p3
    unfold kyF at k3
    omega) 256 (Nat.le_refl _)
  rw [big.2 m2]
