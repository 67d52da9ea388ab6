/-- the remainder, as the class takes it -/
def remC (x t : Int32) : Int32 := if 0 < t then x - x / t * t else 0
def divC (x t : Int32) : Int32 := if 0 < t then x / t else 0
def holdS (x : Int32) : Int32 := if x < 0 then 0 else if 5 < x then 5 else x
def mxI (x y : Int32) : Int32 := if x < y then y else x
def absI (x : Int32) : Int32 := if 0 ≤ x then x else 0 - x
/-- of the first n numbers: how many are lim or more; the row that ends there; the longest row -/
def cntF (f : Nat → Int32) (lim : Int32) : Nat → Int32
  | 0 => 0
  | n + 1 => if f n < lim then cntF f lim n else cntF f lim n + 1
def rowF (f : Nat → Int32) (lim : Int32) : Nat → Int32
  | 0 => 0
  | n + 1 => if f n < lim then 0 else rowF f lim n + 1
def lngF (f : Nat → Int32) (lim : Int32) : Nat → Int32
  | 0 => 0
  | n + 1 => mxI (lngF f lim n) (rowF f lim (n + 1))
/-- from a on, at most n numbers: how many one behind the other are lim or more -/
def runF (f : Nat → Int32) (lim : Int32) (a : Nat) : Nat → Nat
  | 0 => 0
  | n + 1 => if f a < lim then 0 else runF f lim (a + 1) n + 1
def innF (L : Int32) : Nat → Int32
  | 0 => L
  | k + 1 => mxI (innF L k) (nI (k + 1))
def lngR (f : Nat → Int32) (lim : Int32) : Nat → Int32
  | 0 => 0
  | a + 1 => innF (lngR f lim a) (runF f lim a (96 - a))
theorem runF_le (f : Nat → Int32) (lim : Int32) : ∀ (n a : Nat), runF f lim a n ≤ n := by
  intro n
  induction n with
  | zero => intro a; exact Nat.le_refl 0
  | succ n ih => intro a; unfold runF; split; exact Nat.zero_le _; exact Nat.succ_le_succ (ih (a + 1))
theorem runF_is (f : Nat → Int32) (lim : Int32) : ∀ (k n a : Nat), k ≤ n → (∀ j, j < k → ¬ f (a + j) < lim) → (k = n ∨ f (a + k) < lim) → runF f lim a n = k := by
  intro k
  induction k with
  | zero =>
    intro n a _ _ h
    cases n with
    | zero => rfl
    | succ n =>
      rcases h with h | h
      · exact absurd h (by omega)
      · unfold runF; exact if_pos h
  | succ k ih =>
    intro n a hk hj h
    cases n with
    | zero => exact absurd hk (by omega)
    | succ n =>
      unfold runF
      rw [if_neg (show ¬ f a < lim from hj 0 (by omega)), ih n (a + 1) (by omega) (fun j hjk => by have := hj (j + 1) (by omega); rwa [show a + (j + 1) = a + 1 + j by omega] at this) (by
        rcases h with h | h
        · exact Or.inl (by omega)
        · exact Or.inr (by rwa [show a + (k + 1) = a + 1 + k by omega] at h))]

abbrev rmX0_leftOf : Room := { frames := 0, cells := 0, slots := 0, locals := 0 }
theorem iX0_leftOf_0 : ∀ w ∈ u_ws RX0 TX0 8, w ∈ wsX0_leftOf := by decide +kernel
set_option maxHeartbeats 4000000 in
set_option maxRecDepth 100000 in
theorem kX0_leftOf (l : Launch) {M : Mm} {r : Nat} (hr : isR 0 r) (x : Int32) : Ct l yX0_leftOf wsX0_leftOf rmX0_leftOf (fun B => [.ref (B + r), .int x]) M (fun _ v u => v = some (.int (remC x (M r 2))) ∧ u = M) := by
  refine Ct.ofI (own := RX0) (by decide +kernel) rfl rfl (fun B => Nat.le_of_ble_eq_true rfl) ?_
  intro pp ee ss mm aa bb me c9 DD ca B Tl AA QQ F K
  show G pp l ee rmX0_leftOf ss mm aa bb me c9 QQ DD ca B Tl AA 2 0 0 M 0 [(0, .ref (B + r)), (1, .int x)] []
  refine g_aload_n F dX0_leftOf_0 rfl 0 rfl ?_
  refine gg0_turn F iX0_leftOf_0 hr (by decide +kernel) dX0_leftOf_1 ?_
  refine g_if_le F 16 dX0_leftOf_4 (by decide) (fun h1 => ?_) (fun h1 => ?_)
  · refine g_iconst F (v := 0) dX0_leftOf_16 (by decide) ?_
    exact K _ _ _ _ dX0_leftOf_17 rfl ⟨by first | (rw [remC, if_neg (Int32.not_lt.mpr h1)]) | (rw [remC, if_pos (Int32.not_le.mp h1)]), rfl⟩
  · refine g_iload_n F dX0_leftOf_7 rfl 1 rfl ?_
    refine g_aload_n F dX0_leftOf_8 rfl 0 rfl ?_
    refine gg0_turn F iX0_leftOf_0 hr (by decide +kernel) dX0_leftOf_9 ?_
    refine g_irem F dX0_leftOf_12 (fun z => h1 (by rw [z]; decide)) ?_
    refine g_goto F 17 dX0_leftOf_13 (by decide) ?_
    exact K _ _ _ _ dX0_leftOf_17 rfl ⟨by first | (rw [remC, if_neg (Int32.not_lt.mpr h1)]) | (rw [remC, if_pos (Int32.not_le.mp h1)]), rfl⟩

abbrev rmX0_turnsIn : Room := { frames := 0, cells := 0, slots := 0, locals := 0 }
theorem iX0_turnsIn_0 : ∀ w ∈ u_ws RX0 TX0 8, w ∈ wsX0_turnsIn := by decide +kernel
set_option maxHeartbeats 4000000 in
set_option maxRecDepth 100000 in
theorem kX0_turnsIn (l : Launch) {M : Mm} {r : Nat} (hr : isR 0 r) (x : Int32) : Ct l yX0_turnsIn wsX0_turnsIn rmX0_turnsIn (fun B => [.ref (B + r), .int x]) M (fun _ v u => v = some (.int (divC x (M r 2))) ∧ u = M) := by
  refine Ct.ofI (own := RX0) (by decide +kernel) rfl rfl (fun B => Nat.le_of_ble_eq_true rfl) ?_
  intro pp ee ss mm aa bb me c9 DD ca B Tl AA QQ F K
  show G pp l ee rmX0_turnsIn ss mm aa bb me c9 QQ DD ca B Tl AA 2 0 0 M 0 [(0, .ref (B + r)), (1, .int x)] []
  refine g_aload_n F dX0_turnsIn_0 rfl 0 rfl ?_
  refine gg0_turn F iX0_turnsIn_0 hr (by decide +kernel) dX0_turnsIn_1 ?_
  refine g_if_le F 16 dX0_turnsIn_4 (by decide) (fun h1 => ?_) (fun h1 => ?_)
  · refine g_iconst F (v := 0) dX0_turnsIn_16 (by decide) ?_
    exact K _ _ _ _ dX0_turnsIn_17 rfl ⟨by first | (rw [divC, if_neg (Int32.not_lt.mpr h1)]) | (rw [divC, if_pos (Int32.not_le.mp h1)]), rfl⟩
  · refine g_iload_n F dX0_turnsIn_7 rfl 1 rfl ?_
    refine g_aload_n F dX0_turnsIn_8 rfl 0 rfl ?_
    refine gg0_turn F iX0_turnsIn_0 hr (by decide +kernel) dX0_turnsIn_9 ?_
    refine g_idiv F dX0_turnsIn_12 (fun z => h1 (by rw [z]; decide)) ?_
    refine g_goto F 17 dX0_turnsIn_13 (by decide) ?_
    exact K _ _ _ _ dX0_turnsIn_17 rfl ⟨by first | (rw [divC, if_neg (Int32.not_lt.mpr h1)]) | (rw [divC, if_pos (Int32.not_le.mp h1)]), rfl⟩

abbrev rmX8_hold : Room := { frames := 0, cells := 0, slots := 0, locals := 0 }
set_option maxHeartbeats 4000000 in
set_option maxRecDepth 100000 in
theorem kX8_hold (l : Launch) {M : Mm} (x : Int32) : Ct l yX8_hold wsX8_hold rmX8_hold (fun B => [.int x]) M (fun _ v u => v = some (.int (holdS x)) ∧ u = M) := by
  refine Ct.ofI (own := RX8) (by decide +kernel) rfl rfl (fun B => Nat.le_of_ble_eq_true rfl) ?_
  intro pp ee ss mm aa bb me c9 DD ca B Tl AA QQ F K
  show G pp l ee rmX8_hold ss mm aa bb me c9 QQ DD ca B Tl AA 1 0 0 M 0 [(0, .int x)] []
  refine g_iload_n F dX8_hold_0 rfl 0 rfl ?_
  refine g_if_ge F 6 dX8_hold_1 (by decide) (fun h1 => ?_) (fun h1 => ?_)
  · refine g_iload_n F dX8_hold_6 rfl 0 rfl ?_
    refine g_iconst F (v := 5) dX8_hold_7 (by decide) ?_
    refine g_icmp_le F 15 dX8_hold_8 (by decide) (fun h2 => ?_) (fun h2 => ?_)
    · refine g_iload_n F dX8_hold_15 rfl 0 rfl ?_
      exact K _ _ _ _ dX8_hold_16 rfl ⟨by first | (rw [holdS, if_neg (Int32.not_lt.mpr h1), if_neg (Int32.not_lt.mpr h2)]) | (rw [holdS, if_neg (Int32.not_lt.mpr h1), if_pos (Int32.not_le.mp h2)]), rfl⟩
    · refine g_iconst F (v := 5) dX8_hold_11 (by decide) ?_
      refine g_goto F 16 dX8_hold_12 (by decide) ?_
      exact K _ _ _ _ dX8_hold_16 rfl ⟨by first | (rw [holdS, if_neg (Int32.not_lt.mpr h1), if_neg (Int32.not_lt.mpr h2)]) | (rw [holdS, if_neg (Int32.not_lt.mpr h1), if_pos (Int32.not_le.mp h2)]), rfl⟩
  · refine g_iconst F (v := 0) dX8_hold_4 (by decide) ?_
    exact K _ _ _ _ dX8_hold_5 rfl ⟨by rw [holdS, if_pos (Int32.not_le.mp h1)], rfl⟩

abbrev rmX8_isWithin : Room := { frames := 0, cells := 0, slots := 0, locals := 0 }
set_option maxHeartbeats 4000000 in
set_option maxRecDepth 100000 in
theorem kX8_isWithin (l : Launch) {M : Mm} (x a b : Int32) : Ct l yX8_isWithin wsX8_isWithin rmX8_isWithin (fun B => [.int x, .int a, .int b]) M (fun _ v u => v = some (.int (b2i (a ≤ x ∧ x ≤ b))) ∧ u = M) := by
  refine Ct.ofI (own := RX8) (by decide +kernel) rfl rfl (fun B => Nat.le_of_ble_eq_true rfl) ?_
  intro pp ee ss mm aa bb me c9 DD ca B Tl AA QQ F K
  show G pp l ee rmX8_isWithin ss mm aa bb me c9 QQ DD ca B Tl AA 3 0 0 M 0 [(0, .int x), (1, .int a), (2, .int b)] []
  refine g_iload_n F dX8_isWithin_0 rfl 0 rfl ?_
  refine g_iload_n F dX8_isWithin_1 rfl 1 rfl ?_
  refine g_icmp_lt F 14 dX8_isWithin_2 (by decide) (fun h1 => ?_) (fun h1 => ?_)
  · refine g_iconst F (v := 0) dX8_isWithin_14 (by decide) ?_
    exact K _ _ _ _ dX8_isWithin_15 (by first | exact (bit_z bit_0).1 | exact (bit_z bit_1).1) ⟨by first | exact congrArg (fun z => some (Value.int z)) (b2i_t (And.intro (Int32.not_lt.mp h1) (Int32.not_lt.mp h2))).symm | exact congrArg (fun z => some (Value.int z)) (b2i_f (fun z => Int32.not_le.mpr h1 z.1)).symm | exact congrArg (fun z => some (Value.int z)) (b2i_f (fun z => Int32.not_le.mpr h2 z.2)).symm, rfl⟩
  · refine g_iload_n F dX8_isWithin_5 rfl 0 rfl ?_
    refine g_iload_n F dX8_isWithin_6 rfl 2 rfl ?_
    refine g_icmp_gt F 14 dX8_isWithin_7 (by decide) (fun h2 => ?_) (fun h2 => ?_)
    · refine g_iconst F (v := 0) dX8_isWithin_14 (by decide) ?_
      exact K _ _ _ _ dX8_isWithin_15 (by first | exact (bit_z bit_0).1 | exact (bit_z bit_1).1) ⟨by first | exact congrArg (fun z => some (Value.int z)) (b2i_t (And.intro (Int32.not_lt.mp h1) (Int32.not_lt.mp h2))).symm | exact congrArg (fun z => some (Value.int z)) (b2i_f (fun z => Int32.not_le.mpr h1 z.1)).symm | exact congrArg (fun z => some (Value.int z)) (b2i_f (fun z => Int32.not_le.mpr h2 z.2)).symm, rfl⟩
    · refine g_iconst F (v := 1) dX8_isWithin_10 (by decide) ?_
      refine g_goto F 15 dX8_isWithin_11 (by decide) ?_
      exact K _ _ _ _ dX8_isWithin_15 (by first | exact (bit_z bit_0).1 | exact (bit_z bit_1).1) ⟨by first | exact congrArg (fun z => some (Value.int z)) (b2i_t (And.intro (Int32.not_lt.mp h1) (Int32.not_lt.mp h2))).symm | exact congrArg (fun z => some (Value.int z)) (b2i_f (fun z => Int32.not_le.mpr h1 z.1)).symm | exact congrArg (fun z => some (Value.int z)) (b2i_f (fun z => Int32.not_le.mpr h2 z.2)).symm, rfl⟩

abbrev rmX8_isTick : Room := { frames := 1, cells := 0, slots := 0, locals := 22 }
set_option maxHeartbeats 4000000 in
set_option maxRecDepth 100000 in
theorem kX8_isTick (l : Launch) {M : Mm} (x : Int32) : Ct l yX8_isTick wsX8_isTick rmX8_isTick (fun B => [.int x]) M (fun _ v u => v = some (.int (b2i (0 ≤ x ∧ x ≤ 95))) ∧ u = M) := by
  refine Ct.ofI (own := RX8) (by decide +kernel) rfl rfl (fun B => Nat.le_of_ble_eq_true rfl) ?_
  intro pp ee ss mm aa bb me c9 DD ca B Tl AA QQ F K
  show G pp l ee rmX8_isTick ss mm aa bb me c9 QQ DD ca B Tl AA 1 0 0 M 0 [(0, .int x)] []
  refine g_iload_n F dX8_isTick_0 rfl 0 rfl ?_
  refine g_iconst F (v := 0) dX8_isTick_1 (by decide) ?_
  refine g_bipush F (v := 95) dX8_isTick_2 (by decide +kernel) ?_
  refine g_callS F (kX8_isWithin l _ _ _) (va_cwS 3 F.1.2.2.2.2 gX8_isTick_X8_isWithin rfl rfl rfl (by decide +kernel) ⟨Nat.le_of_ble_eq_true rfl, Nat.le_of_ble_eq_true rfl⟩) rfl rfl rfl (Nat.le_of_ble_eq_true rfl) dX8_isTick_4 ⟨Nat.le_of_ble_eq_true rfl, Nat.le_of_ble_eq_true rfl⟩ (g_det ?_)
  exact K _ _ _ _ dX8_isTick_7 (b2i_nar _) ⟨rfl, rfl⟩

def shC (M : Mm) (r : Nat) (x : Int32) : Int32 := if x < M r 3 then 0 else holdS ((M r 0 + 1) / 2 + M r 1 - remC (x - M r 3) (M r 2))

abbrev rmX0_shadeAt : Room := { frames := 1, cells := 0, slots := 0, locals := 21 }
theorem iX0_shadeAt_0 : ∀ w ∈ u_ws RX0 TX0 8, w ∈ wsX0_shadeAt := by decide +kernel
set_option maxHeartbeats 4000000 in
set_option maxRecDepth 100000 in
theorem kX0_shadeAt (l : Launch) {M : Mm} {r : Nat} (hr : isR 0 r) (x : Int32) : Ct l yX0_shadeAt wsX0_shadeAt rmX0_shadeAt (fun B => [.ref (B + r), .int x]) M (fun _ v u => v = some (.int (shC M r x)) ∧ u = M) := by
  refine Ct.ofI (own := RX0) (by decide +kernel) rfl rfl (fun B => Nat.le_of_ble_eq_true rfl) ?_
  intro pp ee ss mm aa bb me c9 DD ca B Tl AA QQ F K
  show G pp l ee rmX0_shadeAt ss mm aa bb me c9 QQ DD ca B Tl AA 3 0 0 M 0 [(0, .ref (B + r)), (1, .int x)] []
  refine g_iload_n F dX0_shadeAt_0 rfl 1 rfl ?_
  refine g_aload_n F dX0_shadeAt_1 rfl 0 rfl ?_
  refine gg0_begin F iX0_shadeAt_0 hr (by decide +kernel) dX0_shadeAt_2 ?_
  refine g_icmp_ge F 10 dX0_shadeAt_5 (by decide) (fun h1 => ?_) (fun h1 => ?_)
  · refine g_aload_n F dX0_shadeAt_10 rfl 0 rfl ?_
    refine g_iload_n F dX0_shadeAt_11 rfl 1 rfl ?_
    refine g_aload_n F dX0_shadeAt_12 rfl 0 rfl ?_
    refine gg0_begin F iX0_shadeAt_0 hr (by decide +kernel) dX0_shadeAt_13 ?_
    refine g_isub F dX0_shadeAt_16 ?_
    refine g_callV F (kX0_leftOf l hr _) (cwV 1 F.1.2.2.2.2 gX0_shadeAt_X0_leftOf rfl rfl rfl (by decide +kernel) ⟨Nat.le_of_ble_eq_true rfl, Nat.le_of_ble_eq_true rfl⟩) hr (by decide) rfl rfl rfl rfl (Nat.le_of_ble_eq_true rfl) dX0_shadeAt_17 ⟨Nat.le_of_ble_eq_true rfl, Nat.le_of_ble_eq_true rfl⟩ (g_det ?_)
    refine g_istore_n F (lv2 := [(2, _), (0, _), (1, _)]) dX0_shadeAt_20 rfl (by decide) rfl ?_
    refine g_aload_n F dX0_shadeAt_21 rfl 1 rfl ?_
    refine gg0_fire F iX0_shadeAt_0 hr (by decide +kernel) dX0_shadeAt_22 ?_
    refine g_iconst F (v := 1) dX0_shadeAt_25 (by decide) ?_
    refine g_iadd F dX0_shadeAt_26 ?_
    refine g_iconst F (v := 2) dX0_shadeAt_27 (by decide) ?_
    refine g_idiv F dX0_shadeAt_28 (by decide) ?_
    refine g_aload_n F dX0_shadeAt_29 rfl 1 rfl ?_
    refine gg0_damp F iX0_shadeAt_0 hr (by decide +kernel) dX0_shadeAt_30 ?_
    refine g_iadd F dX0_shadeAt_33 ?_
    refine g_iload_n F dX0_shadeAt_34 rfl 0 rfl ?_
    refine g_isub F dX0_shadeAt_35 ?_
    refine g_callSN F (kX8_hold l _) ⟨va_cnB 1 F.1.2.2.2.2 gX0_shadeAt_X8_hold_n48 rfl rfl rfl (F.2.2.2.1.1 (RX0, 48, yX8_hold, "ShadeCards") (by decide +kernel)) (F.1.2.2.2.2 (.initialized RX8) (by decide +kernel)) (by decide +kernel) ⟨Nat.le_of_ble_eq_true rfl, Nat.le_of_ble_eq_true rfl⟩, F.1.2.2.2.2 (.static yX8_hold) (by decide +kernel), trivial⟩ rfl rfl rfl (Nat.le_of_ble_eq_true rfl) dX0_shadeAt_36 ⟨Nat.le_of_ble_eq_true rfl, Nat.le_of_ble_eq_true rfl⟩ (g_det ?_)
    exact K _ _ _ _ dX0_shadeAt_39 rfl ⟨by rw [shC, if_neg (Int32.not_lt.mpr h1)], rfl⟩
  · refine g_iconst F (v := 0) dX0_shadeAt_8 (by decide) ?_
    exact K _ _ _ _ dX0_shadeAt_9 rfl ⟨by rw [shC, if_pos (Int32.not_le.mp h1)], rfl⟩

def atF (f : Nat → Int32) (x : Int32) : Int32 := if x < 0 then -1 else if 96 ≤ x then -1 else f x.toNatClampNeg
theorem atF_n (f : Nat → Int32) {t : Nat} (h : t < 96) : atF f (nI t) = f t := by
  unfold atF
  rw [if_neg (nI_pos (by omega)), if_neg (show ¬ (96 : Int32) ≤ nI t from fun z => absurd ((nI_leI (a := 96) (b := t) (by omega) (by omega)).mp z) (by omega)), nI_clamp (by omega)]
theorem atF_out (f : Nat → Int32) {x : Int32} (h : x < 0 ∨ 96 ≤ x) : atF f x = -1 := by
  unfold atF
  rcases h with h | h
  · rw [if_pos h]
  · split; rfl; first | rfl | rw [if_pos h]
theorem in96 {x : Int32} (h1 : ¬ x < 0) (h2 : ¬ 96 ≤ x) : ∃ t, t < 96 ∧ x = nI t := by
  obtain ⟨j, hj, rfl⟩ := nI_of h1
  exact ⟨j, Nat.lt_of_not_le fun z => h2 ((nI_leI (a := 96) (b := j) (by omega) hj).mpr z), rfl⟩

abbrev rmX1_at : Room := { frames := 0, cells := 0, slots := 0, locals := 0 }
theorem iX1_at_1 : ∀ w ∈ u_ws RX1 TX1 1, w ∈ wsX1_at := by decide +kernel
set_option maxHeartbeats 4000000 in
set_option maxRecDepth 100000 in
theorem kX1_at (l : Launch) {M : Mm} {r : Nat} (hr : isR 1 r) (x : Int32) : Ct l yX1_at wsX1_at rmX1_at (fun B => [.ref (B + r), .int x]) M (fun _ v u => v = some (.int (atF (M (r + 1)) x)) ∧ u = M) := by
  refine Ct.ofI (own := RX1) (by decide +kernel) rfl rfl (fun B => Nat.le_of_ble_eq_true rfl) ?_
  intro pp ee ss mm aa bb me c9 DD ca B Tl AA QQ F K
  show G pp l ee rmX1_at ss mm aa bb me c9 QQ DD ca B Tl AA 2 0 0 M 0 [(0, .ref (B + r)), (1, .int x)] []
  refine g_iload_n F dX1_at_0 rfl 1 rfl ?_
  refine g_if_lt F 19 dX1_at_1 (by decide) (fun h1 => ?_) (fun h1 => ?_)
  · refine g_iconst F (v := -1) dX1_at_19 (by decide) ?_
    exact K _ _ _ _ dX1_at_20 rfl ⟨by first | exact congrArg (fun z => some (Value.int z)) (atF_n _ ht).symm | exact congrArg (fun z => some (Value.int z)) (atF_out _ (Or.inl h1)).symm | exact congrArg (fun z => some (Value.int z)) (atF_out _ (Or.inr h2)).symm, rfl⟩
  · refine g_iload_n F dX1_at_4 rfl 1 rfl ?_
    refine g_bipush F (v := 96) dX1_at_5 (by decide +kernel) ?_
    refine g_icmp_ge F 19 dX1_at_7 (by decide) (fun h2 => ?_) (fun h2 => ?_)
    · refine g_iconst F (v := -1) dX1_at_19 (by decide) ?_
      exact K _ _ _ _ dX1_at_20 rfl ⟨by first | exact congrArg (fun z => some (Value.int z)) (atF_n _ ht).symm | exact congrArg (fun z => some (Value.int z)) (atF_out _ (Or.inl h1)).symm | exact congrArg (fun z => some (Value.int z)) (atF_out _ (Or.inr h2)).symm, rfl⟩
    · obtain ⟨t, ht, rfl⟩ := in96 h1 h2
      refine g_aload_n F dX1_at_10 rfl 0 rfl ?_
      refine gg1_values F iX1_at_1 hr (by decide +kernel) dX1_at_11 ?_
      refine g_iload_n F dX1_at_14 rfl 1 rfl ?_
      refine g_iaload F (sb1 hr) (t) rfl (by omega) (by decide) dX1_at_15 ?_
      refine g_goto F 20 dX1_at_16 (by decide) ?_
      exact K _ _ _ _ dX1_at_20 rfl ⟨by first | exact congrArg (fun z => some (Value.int z)) (atF_n _ ht).symm | exact congrArg (fun z => some (Value.int z)) (atF_out _ (Or.inl h1)).symm | exact congrArg (fun z => some (Value.int z)) (atF_out _ (Or.inr h2)).symm, rfl⟩

def noteF (M : Mm) (r : Nat) (x v : Int32) : Mm := if x < 0 then M else if 96 ≤ x then M else va_up M (r + 1) (upd (M (r + 1)) x.toNatClampNeg v)
theorem noteF_n (M : Mm) (r : Nat) (v : Int32) {t : Nat} (h : t < 96) : noteF M r (nI t) v = va_up M (r + 1) (upd (M (r + 1)) t v) := by
  unfold noteF
  rw [if_neg (nI_pos (by omega)), if_neg (show ¬ (96 : Int32) ≤ nI t from fun z => absurd ((nI_leI (a := 96) (b := t) (by omega) (by omega)).mp z) (by omega)), nI_clamp (by omega)]
theorem noteF_out (M : Mm) (r : Nat) (v : Int32) {x : Int32} (h : x < 0 ∨ 96 ≤ x) : noteF M r x v = M := by
  unfold noteF
  rcases h with h | h
  · rw [if_pos h]
  · split; rfl; first | rfl | rw [if_pos h]

abbrev rmX1_note : Room := { frames := 0, cells := 0, slots := 0, locals := 0 }
theorem iX1_note_1 : ∀ w ∈ u_ws RX1 TX1 1, w ∈ wsX1_note := by decide +kernel
set_option maxHeartbeats 4000000 in
set_option maxRecDepth 100000 in
theorem kX1_note (l : Launch) {M : Mm} {r : Nat} (hr : isR 1 r) (x y : Int32) : Ct l yX1_note wsX1_note rmX1_note (fun B => [.ref (B + r), .int x, .int y]) M (fun _ v u => v = none ∧ u = noteF M r x y) := by
  refine Ct.ofV (own := RX1) (by decide +kernel) rfl rfl (fun B => Nat.le_of_ble_eq_true rfl) ?_
  intro pp ee ss mm aa bb me c9 DD ca B Tl AA QQ F K
  show G pp l ee rmX1_note ss mm aa bb me c9 QQ DD ca B Tl AA 3 0 0 M 0 [(0, .ref (B + r)), (1, .int x), (2, .int y)] []
  refine g_iload_n F dX1_note_0 rfl 1 rfl ?_
  refine g_if_lt F 17 dX1_note_1 (by decide) (fun h1 => ?_) (fun h1 => ?_)
  · exact K _ _ _ dX1_note_17 ⟨rfl, by first | exact (noteF_n _ _ _ ht).symm | exact (noteF_out _ _ _ (Or.inl h1)).symm | exact (noteF_out _ _ _ (Or.inr h2)).symm⟩
  · refine g_iload_n F dX1_note_4 rfl 1 rfl ?_
    refine g_bipush F (v := 96) dX1_note_5 (by decide +kernel) ?_
    refine g_icmp_ge F 17 dX1_note_7 (by decide) (fun h2 => ?_) (fun h2 => ?_)
    · exact K _ _ _ dX1_note_17 ⟨rfl, by first | exact (noteF_n _ _ _ ht).symm | exact (noteF_out _ _ _ (Or.inl h1)).symm | exact (noteF_out _ _ _ (Or.inr h2)).symm⟩
    · obtain ⟨t, ht, rfl⟩ := in96 h1 h2
      refine g_aload_n F dX1_note_10 rfl 0 rfl ?_
      refine gg1_values F iX1_note_1 hr (by decide +kernel) dX1_note_11 ?_
      refine g_iload_n F dX1_note_14 rfl 1 rfl ?_
      refine g_iload_n F dX1_note_15 rfl 2 rfl ?_
      refine g_iastore F (sb1 hr) (t) rfl (by omega) (by decide) dX1_note_16 ?_
      exact K _ _ _ dX1_note_17 ⟨rfl, by first | exact (noteF_n _ _ _ ht).symm | exact (noteF_out _ _ _ (Or.inl h1)).symm | exact (noteF_out _ _ _ (Or.inr h2)).symm⟩

abbrev rmX1_countFrom : Room := { frames := 0, cells := 0, slots := 0, locals := 0 }
theorem iX1_countFrom_1 : ∀ w ∈ u_ws RX1 TX1 1, w ∈ wsX1_countFrom := by decide +kernel
set_option maxHeartbeats 4000000 in
set_option maxRecDepth 100000 in
theorem kX1_countFrom (l : Launch) {M : Mm} {r : Nat} (hr : isR 1 r) (x : Int32) : Ct l yX1_countFrom wsX1_countFrom rmX1_countFrom (fun B => [.ref (B + r), .int x]) M (fun _ v u => v = some (.int (cntF (M (r + 1)) x 96)) ∧ u = M) := by
  refine Ct.ofI (own := RX1) (by decide +kernel) rfl rfl (fun B => Nat.le_of_ble_eq_true rfl) ?_
  intro pp ee ss mm aa bb me c9 DD ca B Tl AA QQ F K
  show G pp l ee rmX1_countFrom ss mm aa bb me c9 QQ DD ca B Tl AA 7 0 0 M 0 [(0, .ref (B + r)), (1, .int x)] []
  refine g_iconst F (v := 0) dX1_countFrom_0 (by decide) ?_
  refine g_istore_n F (lv2 := [(2, _), (0, _), (1, _)]) dX1_countFrom_1 rfl (by decide) rfl ?_
  refine g_aload_n F dX1_countFrom_2 rfl 1 rfl ?_
  refine gg1_values F iX1_countFrom_1 hr (by decide +kernel) dX1_countFrom_3 ?_
  refine g_astore_n F (lv2 := [(3, _), (2, _), (0, _), (1, _)]) dX1_countFrom_6 rfl (by decide) rfl ?_
  refine g_aload_n F dX1_countFrom_7 rfl 0 rfl ?_
  refine g_alen F (sb1 hr) dX1_countFrom_8 ?_
  refine g_istore F (lv2 := [(4, _), (3, _), (2, _), (0, _), (1, _)]) dX1_countFrom_9 (by decide) rfl ?_
  refine g_iconst F (v := 0) dX1_countFrom_11 (by decide) ?_
  refine g_istore F (lv2 := [(5, _), (4, _), (3, _), (2, _), (0, _), (1, _)]) dX1_countFrom_12 (by decide) rfl ?_
  have LP : ∀ (ni i : Nat), i + ni = 96 → G pp l ee rmX1_countFrom ss mm aa bb me c9 QQ DD ca B Tl AA 7 0 0 (M) 14 [(5, .int (nI i)), (1, .int x), (3, .ref (B + (r + 1))), (4, .int (nI 96)), (2, .int (cntF (M (r + 1)) x i))] [] := by
    intro ni
    induction ni with
    | zero =>
      intro i hni
      refine g_iload F dX1_countFrom_14 0 rfl ?_
      refine g_iload F dX1_countFrom_16 3 rfl ?_
      refine g_icmpN_ge F 42 dX1_countFrom_18 (by decide) (i) (96) rfl rfl (by omega) (by omega) (fun hci => ?_) (fun hci => ?_)
      · obtain rfl : i = 96 := by omega
        refine g_iload_n F dX1_countFrom_42 rfl 4 rfl ?_
        exact K _ _ _ _ dX1_countFrom_43 rfl ⟨rfl, rfl⟩
      · exact absurd hci (by omega)
    | succ ni ihi =>
      intro i hni
      refine g_iload F dX1_countFrom_14 0 rfl ?_
      refine g_iload F dX1_countFrom_16 3 rfl ?_
      refine g_icmpN_ge F 42 dX1_countFrom_18 (by decide) (i) (96) rfl rfl (by omega) (by omega) (fun hci => ?_) (fun hci => ?_)
      · exact absurd hci (by omega)
      · refine g_aload_n F dX1_countFrom_21 rfl 2 rfl ?_
        refine g_iload F dX1_countFrom_22 0 rfl ?_
        refine g_iaload F (sb1 hr) (i) rfl (by omega) (by decide) dX1_countFrom_24 ?_
        refine g_istore F (lv2 := [(6, _), (5, _), (1, _), (3, _), (4, _), (2, _)]) dX1_countFrom_25 (by decide) rfl ?_
        refine g_iload F dX1_countFrom_27 0 rfl ?_
        refine g_iload_n F dX1_countFrom_29 rfl 2 rfl ?_
        refine g_icmp_lt F 36 dX1_countFrom_30 (by decide) (fun h3 => ?_) (fun h3 => ?_)
        · refine g_iinc F (lv2 := [(5, _), (6, _), (1, _), (3, _), (4, _), (2, _)]) dX1_countFrom_36 1 rfl (nI_1 _) (by decide) rfl ?_
          refine g_goto F 14 dX1_countFrom_39 (by decide) ?_
          refine g_lv (lv2 := [(5, _), (1, _), (3, _), (4, _), (2, _)]) [0, 2, 3, 4, 5] rfl ?_
          exact g_is rfl (by simp only [cntF, h3, if_true, if_false] <;> rfl) (ihi (i + 1) (by omega))
        · refine g_iinc F (lv2 := [(2, _), (6, _), (5, _), (1, _), (3, _), (4, _)]) dX1_countFrom_33 5 rfl rfl (by decide) rfl ?_
          refine g_iinc F (lv2 := [(5, _), (2, _), (6, _), (1, _), (3, _), (4, _)]) dX1_countFrom_36 2 rfl (nI_1 _) (by decide) rfl ?_
          refine g_goto F 14 dX1_countFrom_39 (by decide) ?_
          refine g_lv (lv2 := [(5, _), (1, _), (3, _), (4, _), (2, _)]) [0, 3, 4, 5, 1] rfl ?_
          exact g_is rfl (by simp only [cntF, h3, if_true, if_false] <;> rfl) (ihi (i + 1) (by omega))
  refine g_lv (lv2 := [(5, _), (1, _), (3, _), (4, _), (2, _)]) [0, 5, 2, 1, 3] rfl ?_
  exact g_is rfl rfl (LP (96 - 0) (0) (by omega))

abbrev rmX1_longestByTicks : Room := { frames := 1, cells := 0, slots := 0, locals := 21 }
theorem iX1_longestByTicks_1 : ∀ w ∈ u_ws RX1 TX1 1, w ∈ wsX1_longestByTicks := by decide +kernel
set_option maxHeartbeats 4000000 in
set_option maxRecDepth 100000 in
theorem kX1_longestByTicks (l : Launch) {M : Mm} {r : Nat} (hr : isR 1 r) (x : Int32) : Ct l yX1_longestByTicks wsX1_longestByTicks rmX1_longestByTicks (fun B => [.ref (B + r), .int x]) M (fun _ v u => v = some (.int (lngF (M (r + 1)) x 96)) ∧ u = M) := by
  refine Ct.ofI (own := RX1) (by decide +kernel) rfl rfl (fun B => Nat.le_of_ble_eq_true rfl) ?_
  intro pp ee ss mm aa bb me c9 DD ca B Tl AA QQ F K
  show G pp l ee rmX1_longestByTicks ss mm aa bb me c9 QQ DD ca B Tl AA 8 0 0 M 0 [(0, .ref (B + r)), (1, .int x)] []
  refine g_iconst F (v := 0) dX1_longestByTicks_0 (by decide) ?_
  refine g_istore_n F (lv2 := [(2, _), (0, _), (1, _)]) dX1_longestByTicks_1 rfl (by decide) rfl ?_
  refine g_iconst F (v := 0) dX1_longestByTicks_2 (by decide) ?_
  refine g_istore_n F (lv2 := [(3, _), (2, _), (0, _), (1, _)]) dX1_longestByTicks_3 rfl (by decide) rfl ?_
  refine g_aload_n F dX1_longestByTicks_4 rfl 2 rfl ?_
  refine gg1_values F iX1_longestByTicks_1 hr (by decide +kernel) dX1_longestByTicks_5 ?_
  refine g_astore F (lv2 := [(4, _), (3, _), (2, _), (0, _), (1, _)]) dX1_longestByTicks_8 (by decide) rfl ?_
  refine g_aload F dX1_longestByTicks_10 0 rfl ?_
  refine g_alen F (sb1 hr) dX1_longestByTicks_12 ?_
  refine g_istore F (lv2 := [(5, _), (4, _), (3, _), (2, _), (0, _), (1, _)]) dX1_longestByTicks_13 (by decide) rfl ?_
  refine g_iconst F (v := 0) dX1_longestByTicks_15 (by decide) ?_
  refine g_istore F (lv2 := [(6, _), (5, _), (4, _), (3, _), (2, _), (0, _), (1, _)]) dX1_longestByTicks_16 (by decide) rfl ?_
  have LP : ∀ (ni i : Nat), i + ni = 96 → G pp l ee rmX1_longestByTicks ss mm aa bb me c9 QQ DD ca B Tl AA 8 0 0 (M) 18 [(6, .int (nI i)), (1, .int x), (4, .ref (B + (r + 1))), (5, .int (nI 96)), (2, .int (lngF (M (r + 1)) x i)), (3, .int (rowF (M (r + 1)) x i))] [] := by
    intro ni
    induction ni with
    | zero =>
      intro i hni
      refine g_iload F dX1_longestByTicks_18 0 rfl ?_
      refine g_iload F dX1_longestByTicks_20 3 rfl ?_
      refine g_icmpN_ge F 58 dX1_longestByTicks_22 (by decide) (i) (96) rfl rfl (by omega) (by omega) (fun hci => ?_) (fun hci => ?_)
      · obtain rfl : i = 96 := by omega
        refine g_iload_n F dX1_longestByTicks_58 rfl 4 rfl ?_
        exact K _ _ _ _ dX1_longestByTicks_59 rfl ⟨rfl, rfl⟩
      · exact absurd hci (by omega)
    | succ ni ihi =>
      intro i hni
      refine g_iload F dX1_longestByTicks_18 0 rfl ?_
      refine g_iload F dX1_longestByTicks_20 3 rfl ?_
      refine g_icmpN_ge F 58 dX1_longestByTicks_22 (by decide) (i) (96) rfl rfl (by omega) (by omega) (fun hci => ?_) (fun hci => ?_)
      · exact absurd hci (by omega)
      · refine g_aload F dX1_longestByTicks_25 2 rfl ?_
        refine g_iload F dX1_longestByTicks_27 0 rfl ?_
        refine g_iaload F (sb1 hr) (i) rfl (by omega) (by decide) dX1_longestByTicks_29 ?_
        refine g_istore F (lv2 := [(7, _), (6, _), (1, _), (4, _), (5, _), (2, _), (3, _)]) dX1_longestByTicks_30 (by decide) rfl ?_
        refine g_iload F dX1_longestByTicks_32 0 rfl ?_
        refine g_iload_n F dX1_longestByTicks_34 rfl 2 rfl ?_
        refine g_icmp_lt F 44 dX1_longestByTicks_35 (by decide) (fun h3 => ?_) (fun h3 => ?_)
        · refine g_iconst F (v := 0) dX1_longestByTicks_44 (by decide) ?_
          refine g_istore_n F (lv2 := [(3, _), (7, _), (6, _), (1, _), (4, _), (5, _), (2, _)]) dX1_longestByTicks_45 rfl (by decide) rfl ?_
          refine g_iload_n F dX1_longestByTicks_46 rfl 6 rfl ?_
          refine g_iload_n F dX1_longestByTicks_47 rfl 0 rfl ?_
          refine g_mmax F (by decide +kernel) (by decide +kernel) (by decide +kernel) (by decide +kernel) (Nat.le_of_ble_eq_true rfl) (Nat.le_of_ble_eq_true rfl) (Nat.zero_le _) (Nat.zero_le _) dX1_longestByTicks_48 ?_
          refine g_istore_n F (lv2 := [(2, _), (3, _), (7, _), (6, _), (1, _), (4, _), (5, _)]) dX1_longestByTicks_51 rfl (by decide) rfl ?_
          refine g_iinc F (lv2 := [(6, _), (2, _), (3, _), (7, _), (1, _), (4, _), (5, _)]) dX1_longestByTicks_52 3 rfl (nI_1 _) (by decide) rfl ?_
          refine g_goto F 18 dX1_longestByTicks_55 (by decide) ?_
          refine g_lv (lv2 := [(6, _), (1, _), (4, _), (5, _), (2, _), (3, _)]) [0, 4, 5, 6, 1, 2] rfl ?_
          exact g_is rfl (by simp only [lngF, rowF, mxI, h3, if_true, if_false] <;> rfl) (ihi (i + 1) (by omega))
        · refine g_iload_n F dX1_longestByTicks_38 rfl 6 rfl ?_
          refine g_iconst F (v := 1) dX1_longestByTicks_39 (by decide) ?_
          refine g_iadd F dX1_longestByTicks_40 ?_
          refine g_goto F 45 dX1_longestByTicks_41 (by decide) ?_
          refine g_istore_n F (lv2 := [(3, _), (7, _), (6, _), (1, _), (4, _), (5, _), (2, _)]) dX1_longestByTicks_45 rfl (by decide) rfl ?_
          refine g_iload_n F dX1_longestByTicks_46 rfl 6 rfl ?_
          refine g_iload_n F dX1_longestByTicks_47 rfl 0 rfl ?_
          refine g_mmax F (by decide +kernel) (by decide +kernel) (by decide +kernel) (by decide +kernel) (Nat.le_of_ble_eq_true rfl) (Nat.le_of_ble_eq_true rfl) (Nat.zero_le _) (Nat.zero_le _) dX1_longestByTicks_48 ?_
          refine g_istore_n F (lv2 := [(2, _), (3, _), (7, _), (6, _), (1, _), (4, _), (5, _)]) dX1_longestByTicks_51 rfl (by decide) rfl ?_
          refine g_iinc F (lv2 := [(6, _), (2, _), (3, _), (7, _), (1, _), (4, _), (5, _)]) dX1_longestByTicks_52 3 rfl (nI_1 _) (by decide) rfl ?_
          refine g_goto F 18 dX1_longestByTicks_55 (by decide) ?_
          refine g_lv (lv2 := [(6, _), (1, _), (4, _), (5, _), (2, _), (3, _)]) [0, 4, 5, 6, 1, 2] rfl ?_
          exact g_is rfl (by simp only [lngF, rowF, mxI, h3, if_true, if_false] <;> rfl) (ihi (i + 1) (by omega))
  refine g_lv (lv2 := [(6, _), (1, _), (4, _), (5, _), (2, _), (3, _)]) [0, 6, 2, 1, 4, 3] rfl ?_
  exact g_is rfl rfl (LP (96 - 0) (0) (by omega))

abbrev rmX1_longestByRows : Room := { frames := 1, cells := 0, slots := 0, locals := 21 }
theorem iX1_longestByRows_1 : ∀ w ∈ u_ws RX1 TX1 1, w ∈ wsX1_longestByRows := by decide +kernel
set_option maxHeartbeats 4000000 in
set_option maxRecDepth 100000 in
theorem kX1_longestByRows (l : Launch) {M : Mm} {r : Nat} (hr : isR 1 r) (x : Int32) : Ct l yX1_longestByRows wsX1_longestByRows rmX1_longestByRows (fun B => [.ref (B + r), .int x]) M (fun _ v u => v = some (.int (lngR (M (r + 1)) x 96)) ∧ u = M) := by
  refine Ct.ofI (own := RX1) (by decide +kernel) rfl rfl (fun B => Nat.le_of_ble_eq_true rfl) ?_
  intro pp ee ss mm aa bb me c9 DD ca B Tl AA QQ F K
  show G pp l ee rmX1_longestByRows ss mm aa bb me c9 QQ DD ca B Tl AA 5 0 0 M 0 [(0, .ref (B + r)), (1, .int x)] []
  refine g_iconst F (v := 0) dX1_longestByRows_0 (by decide) ?_
  refine g_istore_n F (lv2 := [(2, _), (0, _), (1, _)]) dX1_longestByRows_1 rfl (by decide) rfl ?_
  refine g_iconst F (v := 0) dX1_longestByRows_2 (by decide) ?_
  refine g_istore_n F (lv2 := [(3, _), (2, _), (0, _), (1, _)]) dX1_longestByRows_3 rfl (by decide) rfl ?_
  have LP : ∀ (ni i : Nat), i + ni = 96 → G pp l ee rmX1_longestByRows ss mm aa bb me c9 QQ DD ca B Tl AA 5 0 0 (M) 4 [(3, .int (nI i)), (0, .ref (B + r)), (1, .int x), (2, .int (lngR (M (r + 1)) x i))] [] := by
    intro ni
    induction ni with
    | zero =>
      intro i hni
      refine g_iload_n F dX1_longestByRows_4 rfl 0 rfl ?_
      refine g_bipush F (v := 96) dX1_longestByRows_5 (by decide +kernel) ?_
      refine g_icmpN_ge F 54 dX1_longestByRows_7 (by decide) (i) (96) rfl rfl (by omega) (by omega) (fun hci => ?_) (fun hci => ?_)
      · obtain rfl : i = 96 := by omega
        refine g_iload_n F dX1_longestByRows_54 rfl 3 rfl ?_
        exact K _ _ _ _ dX1_longestByRows_55 rfl ⟨rfl, rfl⟩
      · exact absurd hci (by omega)
    | succ ni ihi =>
      intro i hni
      refine g_iload_n F dX1_longestByRows_4 rfl 0 rfl ?_
      refine g_bipush F (v := 96) dX1_longestByRows_5 (by decide +kernel) ?_
      refine g_icmpN_ge F 54 dX1_longestByRows_7 (by decide) (i) (96) rfl rfl (by omega) (by omega) (fun hci => ?_) (fun hci => ?_)
      · exact absurd hci (by omega)
      · refine g_iload_n F dX1_longestByRows_10 rfl 0 rfl ?_
        refine g_istore F (lv2 := [(4, _), (3, _), (0, _), (1, _), (2, _)]) dX1_longestByRows_11 (by decide) rfl ?_
        have LQ : ∀ (nk k : Nat), k + nk = 96 → (i ≤ k ∧ ∀ j, j < k - i → ¬ M (r + 1) (i + j) < x) → G pp l ee rmX1_longestByRows ss mm aa bb me c9 QQ DD ca B Tl AA 5 0 0 (M) 13 [(4, .int (nI k)), (0, .ref (B + r)), (1, .int x), (3, .int (nI i)), (2, .int (innF (lngR (M (r + 1)) x i) (k - i)))] [] := by
          intro nk
          induction nk with
          | zero =>
            intro k hnk hyk
            refine g_iload F dX1_longestByRows_13 0 rfl ?_
            refine g_bipush F (v := 96) dX1_longestByRows_15 (by decide +kernel) ?_
            refine g_icmpN_ge F 48 dX1_longestByRows_17 (by decide) (k) (96) rfl rfl (by omega) (by omega) (fun hck => ?_) (fun hck => ?_)
            · have hR : innF (lngR (M (r + 1)) x i) (k - i) = lngR (M (r + 1)) x (i + 1) := by show _ = innF _ (runF _ _ _ _); rw [runF_is (M (r + 1)) x (k - i) (96 - i) i (by omega) hyk.2 (by first | exact Or.inl (by omega) | exact Or.inr (by rw [show i + (k - i) = k by omega]; exact h3))]
              obtain rfl : k = 96 := by omega
              refine g_iinc F (lv2 := [(3, _), (4, _), (0, _), (1, _), (2, _)]) dX1_longestByRows_48 3 rfl (nI_1 _) (by decide) rfl ?_
              refine g_goto F 4 dX1_longestByRows_51 (by decide) ?_
              refine g_lv (lv2 := [(3, _), (0, _), (1, _), (2, _)]) [0, 2, 3, 4] rfl ?_
              exact g_is rfl (by rw [hR]) (ihi (i + 1) (by omega))
            · exact absurd hck (by omega)
          | succ nk ihk =>
            intro k hnk hyk
            refine g_iload F dX1_longestByRows_13 0 rfl ?_
            refine g_bipush F (v := 96) dX1_longestByRows_15 (by decide +kernel) ?_
            refine g_icmpN_ge F 48 dX1_longestByRows_17 (by decide) (k) (96) rfl rfl (by omega) (by omega) (fun hck => ?_) (fun hck => ?_)
            · exact absurd hck (by omega)
            · refine g_aload_n F dX1_longestByRows_20 rfl 1 rfl ?_
              refine gg1_values F iX1_longestByRows_1 hr (by decide +kernel) dX1_longestByRows_21 ?_
              refine g_iload F dX1_longestByRows_24 0 rfl ?_
              refine g_iaload F (sb1 hr) (k) rfl (by omega) (by decide) dX1_longestByRows_26 ?_
              refine g_iload_n F dX1_longestByRows_27 rfl 2 rfl ?_
              refine g_icmp_lt F 48 dX1_longestByRows_28 (by decide) (fun h3 => ?_) (fun h3 => ?_)
              · have hR : innF (lngR (M (r + 1)) x i) (k - i) = lngR (M (r + 1)) x (i + 1) := by show _ = innF _ (runF _ _ _ _); rw [runF_is (M (r + 1)) x (k - i) (96 - i) i (by omega) hyk.2 (by first | exact Or.inl (by omega) | exact Or.inr (by rw [show i + (k - i) = k by omega]; exact h3))]
                refine g_iinc F (lv2 := [(3, _), (4, _), (0, _), (1, _), (2, _)]) dX1_longestByRows_48 3 rfl (nI_1 _) (by decide) rfl ?_
                refine g_goto F 4 dX1_longestByRows_51 (by decide) ?_
                refine g_lv (lv2 := [(3, _), (0, _), (1, _), (2, _)]) [0, 2, 3, 4] rfl ?_
                exact g_is rfl (by rw [hR]) (ihi (i + 1) (by omega))
              · refine g_iload_n F dX1_longestByRows_31 rfl 4 rfl ?_
                refine g_iload F dX1_longestByRows_32 0 rfl ?_
                refine g_iload_n F dX1_longestByRows_34 rfl 3 rfl ?_
                refine g_isub F dX1_longestByRows_35 ?_
                refine g_top (pk_sub (a := k) (b := i) (by omega)) ?_
                refine g_iconst F (v := 1) dX1_longestByRows_36 (by decide) ?_
                refine g_iadd F dX1_longestByRows_37 ?_
                refine g_top (nI_add ((k - i)) (1)) ?_
                refine g_mmax F (by decide +kernel) (by decide +kernel) (by decide +kernel) (by decide +kernel) (Nat.le_of_ble_eq_true rfl) (Nat.le_of_ble_eq_true rfl) (Nat.zero_le _) (Nat.zero_le _) dX1_longestByRows_38 ?_
                refine g_istore_n F (lv2 := [(2, _), (4, _), (0, _), (1, _), (3, _)]) dX1_longestByRows_41 rfl (by decide) rfl ?_
                refine g_iinc F (lv2 := [(4, _), (2, _), (0, _), (1, _), (3, _)]) dX1_longestByRows_42 1 rfl (nI_1 _) (by decide) rfl ?_
                refine g_goto F 13 dX1_longestByRows_45 (by decide) ?_
                refine g_lv (lv2 := [(4, _), (0, _), (1, _), (3, _), (2, _)]) [0, 2, 3, 4, 1] rfl ?_
                exact g_is rfl (by rw [show k + 1 - i = (k - i) + 1 by omega]; simp only [innF, mxI] <;> rfl) (ihk (k + 1) (by omega) ⟨by omega, fun j h => by by_cases hj : i + j = k; exact hj ▸ h3; exact hyk.2 j (by omega)⟩)
        refine g_lv (lv2 := [(4, _), (0, _), (1, _), (3, _), (2, _)]) [0, 2, 3, 1, 4] rfl ?_
        exact g_is rfl (by rw [Nat.sub_self]; rfl) (LQ (96 - i) (i) (by omega) ⟨Nat.le_refl i, fun j h => absurd h (by omega)⟩)
  refine g_lv (lv2 := [(3, _), (0, _), (1, _), (2, _)]) [0, 2, 3, 1] rfl ?_
  exact g_is rfl rfl (LP (96 - 0) (0) (by omega))
