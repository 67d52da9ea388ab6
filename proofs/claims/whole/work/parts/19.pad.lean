theorem r564 : isR 5 564 := ⟨by decide, by decide +kernel⟩
theorem s565 : 564 + 1 ≠ 564 := by decide
/-- the sign at the pad's place; the digit there -/
def sgF (f g : Nat → Int32) : Int32 := if g 1 < 0 then 0 else if g 2 ≤ g 1 then 0 else if 60 ≤ g 1 then 0 else f (g 1).toNatClampNeg
def dgF (f g : Nat → Int32) : Int32 := if sgF f g < 48 then -1 else if 57 < sgF f g then -1 else sgF f g - 48
abbrev PR : Type := Bool × (Nat → Int32)
def andF (a : PR) (n : (Nat → Int32) → PR) : PR := if a.1 = true then n a.2 else (false, a.2)
def tsF (f g : Nat → Int32) (d : Int32) : PR := if g 2 ≤ g 1 then (false, g) else if sgF f g = d then (true, upd g 1 (g 1 + 1)) else (false, g)
def tdF (g : Nat → Int32) (x m : Int32) : PR := if 0 ≤ x ∧ x ≤ m then (true, upd g 1 (g 1 + 1)) else (false, g)
def tfF (f g : Nat → Int32) (m : Int32) : PR := tdF (upd g 4 (dgF f g)) (dgF f g) m
def t2F (f g : Nat → Int32) (m : Int32) : PR := tdF (upd g 5 (dgF f g)) (dgF f g) m
def tnG (f a : Nat → Int32) (m : Int32) : PR := if 0 < a 4 ∧ dgF f a ≠ -1 ∧ 10 * a 4 + dgF f a ≤ m then (true, upd (upd a 4 (10 * a 4 + dgF f a)) 1 (a 1 + 1)) else (true, a)
def tnF (f g : Nat → Int32) (m : Int32) : PR := andF (tfF f g 9) (fun a => tnG f a m)
def ttF (f g : Nat → Int32) : PR := if 0 < dgF f g then (true, upd (upd g 4 (10 * dgF f g)) 1 (g 1 + 1)) else (true, upd g 4 1)
def tpG (f g : Nat → Int32) (k : Int32) : PR :=
  if k = 46 then andF (tsF f g k) (fun g => ttF f g)
  else if k = 97 then andF (tsF f g k) (fun g => tnF f g 19)
  else if k = 100 then andF (tsF f g k) (fun g => andF (tfF f g 7) (fun g => t2F f g 2))
  else if k = 102 then andF (tsF f g k) (fun g => andF (tfF f g 7) (fun g => t2F f g 9))
  else if k = 103 then andF (tsF f g k) (fun g => andF (tnF f g 23) (fun g => andF (tsF f g 61) (fun g => t2F f g 4)))
  else if k = 111 then andF (tsF f g k) (fun g => andF (tfF f g 2) (fun g => t2F f g 7))
  else if k = 114 then andF (tsF f g k) (fun g => tfF f g 2)
  else (false, g)
def tpF (f g : Nat → Int32) : PR := tpG f (upd g 3 (sgF f g)) (sgF f g)
theorem in60 {x : Int32} (h1 : ¬ x < 0) (h2 : ¬ 60 ≤ x) : ∃ t, t < 60 ∧ x = nI t := by
  obtain ⟨j, hj, rfl⟩ := nI_of h1
  exact ⟨j, Nat.lt_of_not_le fun z => h2 ((nI_leI (a := 60) (b := j) (by omega) hj).mpr z), rfl⟩
theorem chr_0 : chr 0 := by unfold chr; decide +kernel
theorem sg_chr {f : Nat → Int32} (h : ∀ k, k < 60 → chr (f k)) (g : Nat → Int32) : chr (sgF f g) := by
  unfold sgF
  by_cases h1 : g 1 < 0
  · rw [if_pos h1]; exact chr_0
  · rw [if_neg h1]
    by_cases h2 : g 2 ≤ g 1
    · rw [if_pos h2]; exact chr_0
    · rw [if_neg h2]
      by_cases h3 : 60 ≤ g 1
      · rw [if_pos h3]; exact chr_0
      · rw [if_neg h3]
        obtain ⟨t, ht, e⟩ := in60 h1 h3
        rw [e, nI_clamp (by omega)]; exact h t ht

abbrev rmX5_sign : Room := { frames := 0, cells := 0, slots := 0, locals := 0 }
theorem iX5_sign_5 : ∀ w ∈ u_ws RX5 TX5 6, w ∈ wsX5_sign := by decide +kernel
set_option maxHeartbeats 4000000 in
set_option maxRecDepth 100000 in
theorem kX5_sign (l : Launch) {M : Mm}  : Ct l yX5_sign wsX5_sign rmX5_sign (fun B => [.ref (B + 564)]) M (fun _ v u => v = some (.int (sgF (M 565) (M 564))) ∧ u = M) := by
  refine Ct.ofI (own := RX5) (by decide +kernel) rfl rfl (fun B => Nat.le_of_ble_eq_true rfl) ?_
  intro pp ee ss mm aa bb me c9 DD ca B Tl AA QQ F K
  show G pp l ee rmX5_sign ss mm aa bb me c9 QQ DD ca B Tl AA 1 0 0 M 0 [(0, .ref (B + 564))] []
  refine g_Ty (fun hT => ?_)
  refine g_aload_n F dX5_sign_0 rfl 0 rfl ?_
  refine gg5_place F iX5_sign_5 r564 (by decide +kernel) dX5_sign_1 ?_
  refine g_if_lt F 39 dX5_sign_4 (by decide) (fun h1 => ?_) (fun h1 => ?_)
  · refine g_iconst F (v := 0) dX5_sign_39 (by decide) ?_
    exact K _ _ _ _ dX5_sign_40 (by first | exact chr_0.1 | exact (hT.2.2.2 a ha).1) ⟨by first | (rw [sgF, if_pos h1]; done) | (rw [sgF, if_neg h1, if_pos h2]; done) | (rw [sgF, if_neg h1, if_neg h2, if_pos h3]; done) | (rw [sgF, if_neg h1, if_neg h2, if_neg h3, e, nI_clamp (by omega)]; done), rfl⟩
  · refine g_aload_n F dX5_sign_7 rfl 0 rfl ?_
    refine gg5_place F iX5_sign_5 r564 (by decide +kernel) dX5_sign_8 ?_
    refine g_aload_n F dX5_sign_11 rfl 0 rfl ?_
    refine gg5_length F iX5_sign_5 r564 (by decide +kernel) dX5_sign_12 ?_
    refine g_icmp_ge F 39 dX5_sign_15 (by decide) (fun h2 => ?_) (fun h2 => ?_)
    · refine g_iconst F (v := 0) dX5_sign_39 (by decide) ?_
      exact K _ _ _ _ dX5_sign_40 (by first | exact chr_0.1 | exact (hT.2.2.2 a ha).1) ⟨by first | (rw [sgF, if_pos h1]; done) | (rw [sgF, if_neg h1, if_pos h2]; done) | (rw [sgF, if_neg h1, if_neg h2, if_pos h3]; done) | (rw [sgF, if_neg h1, if_neg h2, if_neg h3, e, nI_clamp (by omega)]; done), rfl⟩
    · refine g_aload_n F dX5_sign_18 rfl 0 rfl ?_
      refine gg5_place F iX5_sign_5 r564 (by decide +kernel) dX5_sign_19 ?_
      refine g_bipush F (v := 60) dX5_sign_22 (by decide +kernel) ?_
      refine g_icmp_ge F 39 dX5_sign_24 (by decide) (fun h3 => ?_) (fun h3 => ?_)
      · refine g_iconst F (v := 0) dX5_sign_39 (by decide) ?_
        exact K _ _ _ _ dX5_sign_40 (by first | exact chr_0.1 | exact (hT.2.2.2 a ha).1) ⟨by first | (rw [sgF, if_pos h1]; done) | (rw [sgF, if_neg h1, if_pos h2]; done) | (rw [sgF, if_neg h1, if_neg h2, if_pos h3]; done) | (rw [sgF, if_neg h1, if_neg h2, if_neg h3, e, nI_clamp (by omega)]; done), rfl⟩
      · obtain ⟨a, ha, e⟩ := in60 h1 h3
        refine g_aload_n F dX5_sign_27 rfl 0 rfl ?_
        refine gg5_signs F iX5_sign_5 r564 (by decide +kernel) dX5_sign_28 ?_
        refine g_aload_n F dX5_sign_31 rfl 0 rfl ?_
        refine gg5_place F iX5_sign_5 r564 (by decide +kernel) dX5_sign_32 ?_
        refine g_top e ?_
        refine g_caload F (sb5 r564) (a) rfl (by omega) (by decide) dX5_sign_35 ?_
        refine g_goto F 40 dX5_sign_36 (by decide) ?_
        exact K _ _ _ _ dX5_sign_40 (by first | exact chr_0.1 | exact (hT.2.2.2 a ha).1) ⟨by first | (rw [sgF, if_pos h1]; done) | (rw [sgF, if_neg h1, if_pos h2]; done) | (rw [sgF, if_neg h1, if_neg h2, if_pos h3]; done) | (rw [sgF, if_neg h1, if_neg h2, if_neg h3, e, nI_clamp (by omega)]; done), rfl⟩

abbrev rmX5_digit : Room := { frames := 1, cells := 0, slots := 0, locals := 20 }
set_option maxHeartbeats 4000000 in
set_option maxRecDepth 100000 in
theorem kX5_digit (l : Launch) {M : Mm}  : Ct l yX5_digit wsX5_digit rmX5_digit (fun B => [.ref (B + 564)]) M (fun _ v u => v = some (.int (dgF (M 565) (M 564))) ∧ u = M) := by
  refine Ct.ofI (own := RX5) (by decide +kernel) rfl rfl (fun B => Nat.le_of_ble_eq_true rfl) ?_
  intro pp ee ss mm aa bb me c9 DD ca B Tl AA QQ F K
  show G pp l ee rmX5_digit ss mm aa bb me c9 QQ DD ca B Tl AA 1 0 0 M 0 [(0, .ref (B + 564))] []
  refine g_aload_n F dX5_digit_0 rfl 0 rfl ?_
  refine g_callV F (kX5_sign l) (cwV 0 F.1.2.2.2.2 gX5_digit_X5_sign rfl rfl rfl (by decide +kernel) ⟨Nat.le_of_ble_eq_true rfl, Nat.le_of_ble_eq_true rfl⟩) r564 (by decide) rfl rfl rfl rfl (Nat.le_of_ble_eq_true rfl) dX5_digit_1 ⟨Nat.le_of_ble_eq_true rfl, Nat.le_of_ble_eq_true rfl⟩ (g_det ?_)
  refine g_bipush F (v := 48) dX5_digit_4 (by decide +kernel) ?_
  refine g_icmp_lt F 28 dX5_digit_6 (by decide) (fun h1 => ?_) (fun h1 => ?_)
  · refine g_iconst F (v := -1) dX5_digit_28 (by decide) ?_
    exact K _ _ _ _ dX5_digit_29 rfl ⟨by first | (rw [dgF, if_pos h1]; done) | (rw [dgF, if_neg h1, if_pos h2]; done) | (rw [dgF, if_neg h1, if_neg h2]; done), rfl⟩
  · refine g_aload_n F dX5_digit_9 rfl 0 rfl ?_
    refine g_callV F (kX5_sign l) (cwV 0 F.1.2.2.2.2 gX5_digit_X5_sign rfl rfl rfl (by decide +kernel) ⟨Nat.le_of_ble_eq_true rfl, Nat.le_of_ble_eq_true rfl⟩) r564 (by decide) rfl rfl rfl rfl (Nat.le_of_ble_eq_true rfl) dX5_digit_10 ⟨Nat.le_of_ble_eq_true rfl, Nat.le_of_ble_eq_true rfl⟩ (g_det ?_)
    refine g_bipush F (v := 57) dX5_digit_13 (by decide +kernel) ?_
    refine g_icmp_gt F 28 dX5_digit_15 (by decide) (fun h2 => ?_) (fun h2 => ?_)
    · refine g_iconst F (v := -1) dX5_digit_28 (by decide) ?_
      exact K _ _ _ _ dX5_digit_29 rfl ⟨by first | (rw [dgF, if_pos h1]; done) | (rw [dgF, if_neg h1, if_pos h2]; done) | (rw [dgF, if_neg h1, if_neg h2]; done), rfl⟩
    · refine g_aload_n F dX5_digit_18 rfl 0 rfl ?_
      refine g_callV F (kX5_sign l) (cwV 0 F.1.2.2.2.2 gX5_digit_X5_sign rfl rfl rfl (by decide +kernel) ⟨Nat.le_of_ble_eq_true rfl, Nat.le_of_ble_eq_true rfl⟩) r564 (by decide) rfl rfl rfl rfl (Nat.le_of_ble_eq_true rfl) dX5_digit_19 ⟨Nat.le_of_ble_eq_true rfl, Nat.le_of_ble_eq_true rfl⟩ (g_det ?_)
      refine g_bipush F (v := 48) dX5_digit_22 (by decide +kernel) ?_
      refine g_isub F dX5_digit_24 ?_
      refine g_goto F 29 dX5_digit_25 (by decide) ?_
      exact K _ _ _ _ dX5_digit_29 rfl ⟨by first | (rw [dgF, if_pos h1]; done) | (rw [dgF, if_neg h1, if_pos h2]; done) | (rw [dgF, if_neg h1, if_neg h2]; done), rfl⟩

abbrev rmX5_takeSign : Room := { frames := 1, cells := 0, slots := 0, locals := 20 }
theorem iX5_takeSign_5 : ∀ w ∈ u_ws RX5 TX5 6, w ∈ wsX5_takeSign := by decide +kernel
set_option maxHeartbeats 4000000 in
set_option maxRecDepth 100000 in
theorem kX5_takeSign (l : Launch) {M : Mm} (x : Int32) : Ct l yX5_takeSign wsX5_takeSign rmX5_takeSign (fun B => [.ref (B + 564), .int x]) M (fun _ v u => v = some (.int (b2i ((tsF (M 565) (M 564) x).1 = true))) ∧ u = va_up M 564 (tsF (M 565) (M 564) x).2) := by
  refine Ct.ofI (own := RX5) (by decide +kernel) rfl rfl (fun B => Nat.le_of_ble_eq_true rfl) ?_
  intro pp ee ss mm aa bb me c9 DD ca B Tl AA QQ F K
  show G pp l ee rmX5_takeSign ss mm aa bb me c9 QQ DD ca B Tl AA 2 0 0 M 0 [(0, .ref (B + 564)), (1, .int x)] []
  refine g_aload_n F dX5_takeSign_0 rfl 0 rfl ?_
  refine gg5_place F iX5_takeSign_5 r564 (by decide +kernel) dX5_takeSign_1 ?_
  refine g_aload_n F dX5_takeSign_4 rfl 0 rfl ?_
  refine gg5_length F iX5_takeSign_5 r564 (by decide +kernel) dX5_takeSign_5 ?_
  refine g_icmp_ge F 19 dX5_takeSign_8 (by decide) (fun h1 => ?_) (fun h1 => ?_)
  · refine g_iconst F (v := 0) dX5_takeSign_19 (by decide) ?_
    exact K _ _ _ _ dX5_takeSign_20 (by first | exact (bit_z bit_0).1 | exact (bit_z bit_1).1) ⟨by first | (rw [tsF, if_pos h1]; rfl) | (rw [tsF, if_neg h1, if_pos h2]; rfl) | (rw [tsF, if_neg h1, if_neg h2]; rfl), by first | (rw [tsF, if_pos h1]; exact (up_id _ _).symm) | (rw [tsF, if_neg h1, if_pos h2]; done) | (rw [tsF, if_neg h1, if_neg h2]; exact (up_id _ _).symm)⟩
  · refine g_aload_n F dX5_takeSign_11 rfl 0 rfl ?_
    refine g_callV F (kX5_sign l) (cwV 0 F.1.2.2.2.2 gX5_takeSign_X5_sign rfl rfl rfl (by decide +kernel) ⟨Nat.le_of_ble_eq_true rfl, Nat.le_of_ble_eq_true rfl⟩) r564 (by decide) rfl rfl rfl rfl (Nat.le_of_ble_eq_true rfl) dX5_takeSign_12 ⟨Nat.le_of_ble_eq_true rfl, Nat.le_of_ble_eq_true rfl⟩ (g_det ?_)
    refine g_iload_n F dX5_takeSign_15 rfl 1 rfl ?_
    refine g_icmp_eq F 21 dX5_takeSign_16 (by decide) (fun h2 => ?_) (fun h2 => ?_)
    · refine g_aload_n F dX5_takeSign_21 rfl 0 rfl ?_
      refine g_dup F dX5_takeSign_22 rfl ?_
      refine gg5_place F iX5_takeSign_5 r564 (by decide +kernel) dX5_takeSign_23 ?_
      refine g_iconst F (v := 1) dX5_takeSign_26 (by decide) ?_
      refine g_iadd F dX5_takeSign_27 ?_
      refine gp5_place F iX5_takeSign_5 r564 rfl (by decide +kernel) dX5_takeSign_28 ?_
      try simp only [bx_uu, va_up_self, va_up_ne _ _ s565]
      refine g_iconst F (v := 1) dX5_takeSign_31 (by decide) ?_
      exact K _ _ _ _ dX5_takeSign_32 (by first | exact (bit_z bit_0).1 | exact (bit_z bit_1).1) ⟨by first | (rw [tsF, if_pos h1]; rfl) | (rw [tsF, if_neg h1, if_pos h2]; rfl) | (rw [tsF, if_neg h1, if_neg h2]; rfl), by first | (rw [tsF, if_pos h1]; exact (up_id _ _).symm) | (rw [tsF, if_neg h1, if_pos h2]; done) | (rw [tsF, if_neg h1, if_neg h2]; exact (up_id _ _).symm)⟩
    · refine g_iconst F (v := 0) dX5_takeSign_19 (by decide) ?_
      exact K _ _ _ _ dX5_takeSign_20 (by first | exact (bit_z bit_0).1 | exact (bit_z bit_1).1) ⟨by first | (rw [tsF, if_pos h1]; rfl) | (rw [tsF, if_neg h1, if_pos h2]; rfl) | (rw [tsF, if_neg h1, if_neg h2]; rfl), by first | (rw [tsF, if_pos h1]; exact (up_id _ _).symm) | (rw [tsF, if_neg h1, if_pos h2]; done) | (rw [tsF, if_neg h1, if_neg h2]; exact (up_id _ _).symm)⟩

abbrev rmX5_takeDigit : Room := { frames := 1, cells := 0, slots := 0, locals := 22 }
theorem iX5_takeDigit_5 : ∀ w ∈ u_ws RX5 TX5 6, w ∈ wsX5_takeDigit := by decide +kernel
set_option maxHeartbeats 4000000 in
set_option maxRecDepth 100000 in
theorem kX5_takeDigit (l : Launch) {M : Mm} (x y : Int32) : Ct l yX5_takeDigit wsX5_takeDigit rmX5_takeDigit (fun B => [.ref (B + 564), .int x, .int y]) M (fun _ v u => v = some (.int (b2i ((tdF (M 564) x y).1 = true))) ∧ u = va_up M 564 (tdF (M 564) x y).2) := by
  refine Ct.ofI (own := RX5) (by decide +kernel) rfl rfl (fun B => Nat.le_of_ble_eq_true rfl) ?_
  intro pp ee ss mm aa bb me c9 DD ca B Tl AA QQ F K
  show G pp l ee rmX5_takeDigit ss mm aa bb me c9 QQ DD ca B Tl AA 3 0 0 M 0 [(0, .ref (B + 564)), (1, .int x), (2, .int y)] []
  refine g_iload_n F dX5_takeDigit_0 rfl 1 rfl ?_
  refine g_iconst F (v := 0) dX5_takeDigit_1 (by decide) ?_
  refine g_iload_n F dX5_takeDigit_2 rfl 2 rfl ?_
  refine g_callSN F (kX8_isWithin l _ _ _) ⟨va_cnB 3 F.1.2.2.2.2 gX5_takeDigit_X8_isWithin_n34 rfl rfl rfl (F.2.2.2.1.1 (RX5, 34, yX8_isWithin, "ShadeCards") (by decide +kernel)) (F.1.2.2.2.2 (.initialized RX8) (by decide +kernel)) (by decide +kernel) ⟨Nat.le_of_ble_eq_true rfl, Nat.le_of_ble_eq_true rfl⟩, F.1.2.2.2.2 (.static yX8_isWithin) (by decide +kernel), trivial⟩ rfl rfl rfl (Nat.le_of_ble_eq_true rfl) dX5_takeDigit_3 ⟨Nat.le_of_ble_eq_true rfl, Nat.le_of_ble_eq_true rfl⟩ (g_det ?_)
  refine g_ifB_ne F 11 dX5_takeDigit_6 (by decide) (fun h1 => ?_) (fun h1 => ?_)
  · refine g_aload_n F dX5_takeDigit_11 rfl 0 rfl ?_
    refine g_dup F dX5_takeDigit_12 rfl ?_
    refine gg5_place F iX5_takeDigit_5 r564 (by decide +kernel) dX5_takeDigit_13 ?_
    refine g_iconst F (v := 1) dX5_takeDigit_16 (by decide) ?_
    refine g_iadd F dX5_takeDigit_17 ?_
    refine gp5_place F iX5_takeDigit_5 r564 rfl (by decide +kernel) dX5_takeDigit_18 ?_
    try simp only [bx_uu, va_up_self, va_up_ne _ _ s565]
    refine g_iconst F (v := 1) dX5_takeDigit_21 (by decide) ?_
    exact K _ _ _ _ dX5_takeDigit_22 (by first | exact (bit_z bit_0).1 | exact (bit_z bit_1).1) ⟨by first | (rw [tdF, if_pos h1]; rfl) | (rw [tdF, if_neg h1]; rfl), by first | (rw [tdF, if_pos h1]; done) | (rw [tdF, if_neg h1]; exact (up_id _ _).symm)⟩
  · refine g_iconst F (v := 0) dX5_takeDigit_9 (by decide) ?_
    exact K _ _ _ _ dX5_takeDigit_10 (by first | exact (bit_z bit_0).1 | exact (bit_z bit_1).1) ⟨by first | (rw [tdF, if_pos h1]; rfl) | (rw [tdF, if_neg h1]; rfl), by first | (rw [tdF, if_pos h1]; done) | (rw [tdF, if_neg h1]; exact (up_id _ _).symm)⟩

abbrev rmX5_takeFirst : Room := { frames := 2, cells := 0, slots := 0, locals := 44 }
theorem iX5_takeFirst_5 : ∀ w ∈ u_ws RX5 TX5 6, w ∈ wsX5_takeFirst := by decide +kernel
set_option maxHeartbeats 4000000 in
set_option maxRecDepth 100000 in
theorem kX5_takeFirst (l : Launch) {M : Mm} (x : Int32) : Ct l yX5_takeFirst wsX5_takeFirst rmX5_takeFirst (fun B => [.ref (B + 564), .int x]) M (fun _ v u => v = some (.int (b2i ((tfF (M 565) (M 564) x).1 = true))) ∧ u = va_up M 564 (tfF (M 565) (M 564) x).2) := by
  refine Ct.ofI (own := RX5) (by decide +kernel) rfl rfl (fun B => Nat.le_of_ble_eq_true rfl) ?_
  intro pp ee ss mm aa bb me c9 DD ca B Tl AA QQ F K
  show G pp l ee rmX5_takeFirst ss mm aa bb me c9 QQ DD ca B Tl AA 2 0 0 M 0 [(0, .ref (B + 564)), (1, .int x)] []
  refine g_aload_n F dX5_takeFirst_0 rfl 0 rfl ?_
  refine g_aload_n F dX5_takeFirst_1 rfl 0 rfl ?_
  refine g_callV F (kX5_digit l) (cwV 0 F.1.2.2.2.2 gX5_takeFirst_X5_digit rfl rfl rfl (by decide +kernel) ⟨Nat.le_of_ble_eq_true rfl, Nat.le_of_ble_eq_true rfl⟩) r564 (by decide) rfl rfl rfl rfl (Nat.le_of_ble_eq_true rfl) dX5_takeFirst_2 ⟨Nat.le_of_ble_eq_true rfl, Nat.le_of_ble_eq_true rfl⟩ (g_det ?_)
  refine gp5_first F iX5_takeFirst_5 r564 rfl (by decide +kernel) dX5_takeFirst_5 ?_
  try simp only [bx_uu, va_up_self, va_up_ne _ _ s565]
  refine g_aload_n F dX5_takeFirst_8 rfl 0 rfl ?_
  refine g_aload_n F dX5_takeFirst_9 rfl 0 rfl ?_
  refine gg5_first F iX5_takeFirst_5 r564 (by decide +kernel) dX5_takeFirst_10 ?_
  refine g_top (y := dgF (M 565) (M 564)) (by rfl) ?_
  refine g_iload_n F dX5_takeFirst_13 rfl 1 rfl ?_
  refine g_callV F (kX5_takeDigit l _ _) (cwV 2 F.1.2.2.2.2 gX5_takeFirst_X5_takeDigit rfl rfl rfl (by decide +kernel) ⟨Nat.le_of_ble_eq_true rfl, Nat.le_of_ble_eq_true rfl⟩) r564 (by decide) rfl rfl rfl rfl (Nat.le_of_ble_eq_true rfl) dX5_takeFirst_14 ⟨Nat.le_of_ble_eq_true rfl, Nat.le_of_ble_eq_true rfl⟩ (g_det ?_)
  try simp only [bx_uu, va_up_self, va_up_ne _ _ s565]
  exact K _ _ _ _ dX5_takeFirst_17 (b2i_nar _) ⟨rfl, rfl⟩

abbrev rmX5_takeSecond : Room := { frames := 2, cells := 0, slots := 0, locals := 44 }
theorem iX5_takeSecond_5 : ∀ w ∈ u_ws RX5 TX5 6, w ∈ wsX5_takeSecond := by decide +kernel
set_option maxHeartbeats 4000000 in
set_option maxRecDepth 100000 in
theorem kX5_takeSecond (l : Launch) {M : Mm} (x : Int32) : Ct l yX5_takeSecond wsX5_takeSecond rmX5_takeSecond (fun B => [.ref (B + 564), .int x]) M (fun _ v u => v = some (.int (b2i ((t2F (M 565) (M 564) x).1 = true))) ∧ u = va_up M 564 (t2F (M 565) (M 564) x).2) := by
  refine Ct.ofI (own := RX5) (by decide +kernel) rfl rfl (fun B => Nat.le_of_ble_eq_true rfl) ?_
  intro pp ee ss mm aa bb me c9 DD ca B Tl AA QQ F K
  show G pp l ee rmX5_takeSecond ss mm aa bb me c9 QQ DD ca B Tl AA 2 0 0 M 0 [(0, .ref (B + 564)), (1, .int x)] []
  refine g_aload_n F dX5_takeSecond_0 rfl 0 rfl ?_
  refine g_aload_n F dX5_takeSecond_1 rfl 0 rfl ?_
  refine g_callV F (kX5_digit l) (cwV 0 F.1.2.2.2.2 gX5_takeSecond_X5_digit rfl rfl rfl (by decide +kernel) ⟨Nat.le_of_ble_eq_true rfl, Nat.le_of_ble_eq_true rfl⟩) r564 (by decide) rfl rfl rfl rfl (Nat.le_of_ble_eq_true rfl) dX5_takeSecond_2 ⟨Nat.le_of_ble_eq_true rfl, Nat.le_of_ble_eq_true rfl⟩ (g_det ?_)
  refine gp5_second F iX5_takeSecond_5 r564 rfl (by decide +kernel) dX5_takeSecond_5 ?_
  try simp only [bx_uu, va_up_self, va_up_ne _ _ s565]
  refine g_aload_n F dX5_takeSecond_8 rfl 0 rfl ?_
  refine g_aload_n F dX5_takeSecond_9 rfl 0 rfl ?_
  refine gg5_second F iX5_takeSecond_5 r564 (by decide +kernel) dX5_takeSecond_10 ?_
  refine g_top (y := dgF (M 565) (M 564)) (by rfl) ?_
  refine g_iload_n F dX5_takeSecond_13 rfl 1 rfl ?_
  refine g_callV F (kX5_takeDigit l _ _) (cwV 2 F.1.2.2.2.2 gX5_takeSecond_X5_takeDigit rfl rfl rfl (by decide +kernel) ⟨Nat.le_of_ble_eq_true rfl, Nat.le_of_ble_eq_true rfl⟩) r564 (by decide) rfl rfl rfl rfl (Nat.le_of_ble_eq_true rfl) dX5_takeSecond_14 ⟨Nat.le_of_ble_eq_true rfl, Nat.le_of_ble_eq_true rfl⟩ (g_det ?_)
  try simp only [bx_uu, va_up_self, va_up_ne _ _ s565]
  exact K _ _ _ _ dX5_takeSecond_17 (b2i_nar _) ⟨rfl, rfl⟩

abbrev rmX5_takeNumber : Room := { frames := 3, cells := 0, slots := 0, locals := 65 }
theorem iX5_takeNumber_5 : ∀ w ∈ u_ws RX5 TX5 6, w ∈ wsX5_takeNumber := by decide +kernel
set_option maxHeartbeats 4000000 in
set_option maxRecDepth 100000 in
theorem kX5_takeNumber (l : Launch) {M : Mm} (x : Int32) : Ct l yX5_takeNumber wsX5_takeNumber rmX5_takeNumber (fun B => [.ref (B + 564), .int x]) M (fun _ v u => v = some (.int (b2i ((tnF (M 565) (M 564) x).1 = true))) ∧ u = va_up M 564 (tnF (M 565) (M 564) x).2) := by
  refine Ct.ofI (own := RX5) (by decide +kernel) rfl rfl (fun B => Nat.le_of_ble_eq_true rfl) ?_
  intro pp ee ss mm aa bb me c9 DD ca B Tl AA QQ F K
  show G pp l ee rmX5_takeNumber ss mm aa bb me c9 QQ DD ca B Tl AA 3 0 0 M 0 [(0, .ref (B + 564)), (1, .int x)] []
  refine g_aload_n F dX5_takeNumber_0 rfl 0 rfl ?_
  refine g_bipush F (v := 9) dX5_takeNumber_1 (by decide +kernel) ?_
  refine g_callV F (kX5_takeFirst l _) (cwV 1 F.1.2.2.2.2 gX5_takeNumber_X5_takeFirst rfl rfl rfl (by decide +kernel) ⟨Nat.le_of_ble_eq_true rfl, Nat.le_of_ble_eq_true rfl⟩) r564 (by decide) rfl rfl rfl rfl (Nat.le_of_ble_eq_true rfl) dX5_takeNumber_3 ⟨Nat.le_of_ble_eq_true rfl, Nat.le_of_ble_eq_true rfl⟩ (g_det ?_)
  try simp only [bx_uu, va_up_self, va_up_ne _ _ s565]
  refine g_ifB_ne F 11 dX5_takeNumber_6 (by decide) (fun h1 => ?_) (fun h1 => ?_)
  · refine g_aload_n F dX5_takeNumber_11 rfl 0 rfl ?_
    refine g_callV F (kX5_digit l) (cwV 0 F.1.2.2.2.2 gX5_takeNumber_X5_digit rfl rfl rfl (by decide +kernel) ⟨Nat.le_of_ble_eq_true rfl, Nat.le_of_ble_eq_true rfl⟩) r564 (by decide) rfl rfl rfl rfl (Nat.le_of_ble_eq_true rfl) dX5_takeNumber_12 ⟨Nat.le_of_ble_eq_true rfl, Nat.le_of_ble_eq_true rfl⟩ (g_det ?_)
    refine g_istore_n F (lv2 := [(2, _), (0, _), (1, _)]) dX5_takeNumber_15 rfl (by decide) rfl ?_
    refine g_aload_n F dX5_takeNumber_16 rfl 1 rfl ?_
    refine gg5_first F iX5_takeNumber_5 r564 (by decide +kernel) dX5_takeNumber_17 ?_
    refine g_if_le F 64 dX5_takeNumber_20 (by decide) (fun h2 => ?_) (fun h2 => ?_)
    · refine g_iconst F (v := 1) dX5_takeNumber_64 (by decide) ?_
      exact K _ _ _ _ dX5_takeNumber_65 (by first | exact (bit_z bit_0).1 | exact (bit_z bit_1).1) ⟨by first | (rw [tnF, andF, if_neg h1]; rfl) | (rw [tnF, andF, if_pos h1, tnG]; split <;> rfl), by first | (rw [tnF, andF, if_neg h1]; done) | (rw [tnF, andF, if_pos h1, tnG, if_neg (fun z => Int32.not_lt.mpr h2 z.1)]; done) | (rw [tnF, andF, if_pos h1, tnG, if_neg (fun z => z.2.1 h3)]; done) | (rw [tnF, andF, if_pos h1, tnG, if_neg (fun z => Int32.not_le.mpr h4 z.2.2)]; done) | (rw [tnF, andF, if_pos h1]; exact (congrArg (fun z : PR => va_up M 564 z.2) (if_pos (And.intro (Int32.not_le.mp h2) (And.intro h3 (Int32.not_lt.mp h4))) : tnG (M 565) (tfF (M 565) (M 564) 9).2 x = _)).symm)⟩
    · refine g_iload_n F dX5_takeNumber_23 rfl 0 rfl ?_
      refine g_iconst F (v := -1) dX5_takeNumber_24 (by decide) ?_
      refine g_icmp_eq F 64 dX5_takeNumber_25 (by decide) (fun h3 => ?_) (fun h3 => ?_)
      · refine g_iconst F (v := 1) dX5_takeNumber_64 (by decide) ?_
        exact K _ _ _ _ dX5_takeNumber_65 (by first | exact (bit_z bit_0).1 | exact (bit_z bit_1).1) ⟨by first | (rw [tnF, andF, if_neg h1]; rfl) | (rw [tnF, andF, if_pos h1, tnG]; split <;> rfl), by first | (rw [tnF, andF, if_neg h1]; done) | (rw [tnF, andF, if_pos h1, tnG, if_neg (fun z => Int32.not_lt.mpr h2 z.1)]; done) | (rw [tnF, andF, if_pos h1, tnG, if_neg (fun z => z.2.1 h3)]; done) | (rw [tnF, andF, if_pos h1, tnG, if_neg (fun z => Int32.not_le.mpr h4 z.2.2)]; done) | (rw [tnF, andF, if_pos h1]; exact (congrArg (fun z : PR => va_up M 564 z.2) (if_pos (And.intro (Int32.not_le.mp h2) (And.intro h3 (Int32.not_lt.mp h4))) : tnG (M 565) (tfF (M 565) (M 564) 9).2 x = _)).symm)⟩
      · refine g_bipush F (v := 10) dX5_takeNumber_28 (by decide +kernel) ?_
        refine g_aload_n F dX5_takeNumber_30 rfl 1 rfl ?_
        refine gg5_first F iX5_takeNumber_5 r564 (by decide +kernel) dX5_takeNumber_31 ?_
        refine g_imul F dX5_takeNumber_34 ?_
        refine g_iload_n F dX5_takeNumber_35 rfl 0 rfl ?_
        refine g_iadd F dX5_takeNumber_36 ?_
        refine g_iload_n F dX5_takeNumber_37 rfl 2 rfl ?_
        refine g_icmp_gt F 64 dX5_takeNumber_38 (by decide) (fun h4 => ?_) (fun h4 => ?_)
        · refine g_iconst F (v := 1) dX5_takeNumber_64 (by decide) ?_
          exact K _ _ _ _ dX5_takeNumber_65 (by first | exact (bit_z bit_0).1 | exact (bit_z bit_1).1) ⟨by first | (rw [tnF, andF, if_neg h1]; rfl) | (rw [tnF, andF, if_pos h1, tnG]; split <;> rfl), by first | (rw [tnF, andF, if_neg h1]; done) | (rw [tnF, andF, if_pos h1, tnG, if_neg (fun z => Int32.not_lt.mpr h2 z.1)]; done) | (rw [tnF, andF, if_pos h1, tnG, if_neg (fun z => z.2.1 h3)]; done) | (rw [tnF, andF, if_pos h1, tnG, if_neg (fun z => Int32.not_le.mpr h4 z.2.2)]; done) | (rw [tnF, andF, if_pos h1]; exact (congrArg (fun z : PR => va_up M 564 z.2) (if_pos (And.intro (Int32.not_le.mp h2) (And.intro h3 (Int32.not_lt.mp h4))) : tnG (M 565) (tfF (M 565) (M 564) 9).2 x = _)).symm)⟩
        · refine g_aload_n F dX5_takeNumber_41 rfl 1 rfl ?_
          refine g_bipush F (v := 10) dX5_takeNumber_42 (by decide +kernel) ?_
          refine g_aload_n F dX5_takeNumber_44 rfl 1 rfl ?_
          refine gg5_first F iX5_takeNumber_5 r564 (by decide +kernel) dX5_takeNumber_45 ?_
          refine g_imul F dX5_takeNumber_48 ?_
          refine g_iload_n F dX5_takeNumber_49 rfl 0 rfl ?_
          refine g_iadd F dX5_takeNumber_50 ?_
          refine gp5_first F iX5_takeNumber_5 r564 rfl (by decide +kernel) dX5_takeNumber_51 ?_
          try simp only [bx_uu, va_up_self, va_up_ne _ _ s565]
          refine g_aload_n F dX5_takeNumber_54 rfl 1 rfl ?_
          refine g_dup F dX5_takeNumber_55 rfl ?_
          refine gg5_place F iX5_takeNumber_5 r564 (by decide +kernel) dX5_takeNumber_56 ?_
          refine g_iconst F (v := 1) dX5_takeNumber_59 (by decide) ?_
          refine g_iadd F dX5_takeNumber_60 ?_
          refine gp5_place F iX5_takeNumber_5 r564 rfl (by decide +kernel) dX5_takeNumber_61 ?_
          try simp only [bx_uu, va_up_self, va_up_ne _ _ s565]
          refine g_iconst F (v := 1) dX5_takeNumber_64 (by decide) ?_
          exact K _ _ _ _ dX5_takeNumber_65 (by first | exact (bit_z bit_0).1 | exact (bit_z bit_1).1) ⟨by first | (rw [tnF, andF, if_neg h1]; rfl) | (rw [tnF, andF, if_pos h1, tnG]; split <;> rfl), by first | (rw [tnF, andF, if_neg h1]; done) | (rw [tnF, andF, if_pos h1, tnG, if_neg (fun z => Int32.not_lt.mpr h2 z.1)]; done) | (rw [tnF, andF, if_pos h1, tnG, if_neg (fun z => z.2.1 h3)]; done) | (rw [tnF, andF, if_pos h1, tnG, if_neg (fun z => Int32.not_le.mpr h4 z.2.2)]; done) | (rw [tnF, andF, if_pos h1]; exact (congrArg (fun z : PR => va_up M 564 z.2) (if_pos (And.intro (Int32.not_le.mp h2) (And.intro h3 (Int32.not_lt.mp h4))) : tnG (M 565) (tfF (M 565) (M 564) 9).2 x = _)).symm)⟩
  · refine g_iconst F (v := 0) dX5_takeNumber_9 (by decide) ?_
    exact K _ _ _ _ dX5_takeNumber_10 (by first | exact (bit_z bit_0).1 | exact (bit_z bit_1).1) ⟨by first | (rw [tnF, andF, if_neg h1]; rfl) | (rw [tnF, andF, if_pos h1, tnG]; split <;> rfl), by first | (rw [tnF, andF, if_neg h1]; done) | (rw [tnF, andF, if_pos h1, tnG, if_neg (fun z => Int32.not_lt.mpr h2 z.1)]; done) | (rw [tnF, andF, if_pos h1, tnG, if_neg (fun z => z.2.1 h3)]; done) | (rw [tnF, andF, if_pos h1, tnG, if_neg (fun z => Int32.not_le.mpr h4 z.2.2)]; done) | (rw [tnF, andF, if_pos h1]; exact (congrArg (fun z : PR => va_up M 564 z.2) (if_pos (And.intro (Int32.not_le.mp h2) (And.intro h3 (Int32.not_lt.mp h4))) : tnG (M 565) (tfF (M 565) (M 564) 9).2 x = _)).symm)⟩

abbrev rmX5_takeTicks : Room := { frames := 2, cells := 0, slots := 0, locals := 40 }
theorem iX5_takeTicks_5 : ∀ w ∈ u_ws RX5 TX5 6, w ∈ wsX5_takeTicks := by decide +kernel
set_option maxHeartbeats 4000000 in
set_option maxRecDepth 100000 in
theorem kX5_takeTicks (l : Launch) {M : Mm}  : Ct l yX5_takeTicks wsX5_takeTicks rmX5_takeTicks (fun B => [.ref (B + 564)]) M (fun _ v u => v = some (.int (b2i ((ttF (M 565) (M 564)).1 = true))) ∧ u = va_up M 564 (ttF (M 565) (M 564)).2) := by
  refine Ct.ofI (own := RX5) (by decide +kernel) rfl rfl (fun B => Nat.le_of_ble_eq_true rfl) ?_
  intro pp ee ss mm aa bb me c9 DD ca B Tl AA QQ F K
  show G pp l ee rmX5_takeTicks ss mm aa bb me c9 QQ DD ca B Tl AA 2 0 0 M 0 [(0, .ref (B + 564))] []
  refine g_aload_n F dX5_takeTicks_0 rfl 0 rfl ?_
  refine g_callV F (kX5_digit l) (cwV 0 F.1.2.2.2.2 gX5_takeTicks_X5_digit rfl rfl rfl (by decide +kernel) ⟨Nat.le_of_ble_eq_true rfl, Nat.le_of_ble_eq_true rfl⟩) r564 (by decide) rfl rfl rfl rfl (Nat.le_of_ble_eq_true rfl) dX5_takeTicks_1 ⟨Nat.le_of_ble_eq_true rfl, Nat.le_of_ble_eq_true rfl⟩ (g_det ?_)
  refine g_istore_n F (lv2 := [(1, _), (0, _)]) dX5_takeTicks_4 rfl (by decide) rfl ?_
  refine g_aload_n F dX5_takeTicks_5 rfl 1 rfl ?_
  refine g_iconst F (v := 1) dX5_takeTicks_6 (by decide) ?_
  refine gp5_first F iX5_takeTicks_5 r564 rfl (by decide +kernel) dX5_takeTicks_7 ?_
  try simp only [bx_uu, va_up_self, va_up_ne _ _ s565]
  refine g_iload_n F dX5_takeTicks_10 rfl 0 rfl ?_
  refine g_if_le F 32 dX5_takeTicks_11 (by decide) (fun h1 => ?_) (fun h1 => ?_)
  · refine g_iconst F (v := 1) dX5_takeTicks_32 (by decide) ?_
    exact K _ _ _ _ dX5_takeTicks_33 (by first | exact (bit_z bit_0).1 | exact (bit_z bit_1).1) ⟨by rw [ttF]; split <;> rfl, by first | (rw [ttF, if_neg (Int32.not_lt.mpr h1)]; done) | (rw [ttF, if_pos (Int32.not_le.mp h1)]; rfl)⟩
  · refine g_aload_n F dX5_takeTicks_14 rfl 1 rfl ?_
    refine g_bipush F (v := 10) dX5_takeTicks_15 (by decide +kernel) ?_
    refine g_iload_n F dX5_takeTicks_17 rfl 0 rfl ?_
    refine g_imul F dX5_takeTicks_18 ?_
    refine gp5_first F iX5_takeTicks_5 r564 rfl (by decide +kernel) dX5_takeTicks_19 ?_
    try simp only [bx_uu, va_up_self, va_up_ne _ _ s565]
    try simp only [upd2]
    refine g_aload_n F dX5_takeTicks_22 rfl 1 rfl ?_
    refine g_dup F dX5_takeTicks_23 rfl ?_
    refine gg5_place F iX5_takeTicks_5 r564 (by decide +kernel) dX5_takeTicks_24 ?_
    refine g_iconst F (v := 1) dX5_takeTicks_27 (by decide) ?_
    refine g_iadd F dX5_takeTicks_28 ?_
    refine gp5_place F iX5_takeTicks_5 r564 rfl (by decide +kernel) dX5_takeTicks_29 ?_
    try simp only [bx_uu, va_up_self, va_up_ne _ _ s565]
    refine g_iconst F (v := 1) dX5_takeTicks_32 (by decide) ?_
    exact K _ _ _ _ dX5_takeTicks_33 (by first | exact (bit_z bit_0).1 | exact (bit_z bit_1).1) ⟨by rw [ttF]; split <;> rfl, by first | (rw [ttF, if_neg (Int32.not_lt.mpr h1)]; done) | (rw [ttF, if_pos (Int32.not_le.mp h1)]; rfl)⟩

abbrev rmX5_empty : Room := { frames := 0, cells := 0, slots := 0, locals := 0 }
theorem iX5_empty_5 : ∀ w ∈ u_ws RX5 TX5 6, w ∈ wsX5_empty := by decide +kernel
set_option maxHeartbeats 4000000 in
set_option maxRecDepth 100000 in
theorem kX5_empty (l : Launch) {M : Mm}  : Ct l yX5_empty wsX5_empty rmX5_empty (fun B => [.ref (B + 564)]) M (fun _ v u => v = none ∧ u = va_up M 564 (upd (M 564) 2 0)) := by
  refine Ct.ofV (own := RX5) (by decide +kernel) rfl rfl (fun B => Nat.le_of_ble_eq_true rfl) ?_
  intro pp ee ss mm aa bb me c9 DD ca B Tl AA QQ F K
  show G pp l ee rmX5_empty ss mm aa bb me c9 QQ DD ca B Tl AA 1 0 0 M 0 [(0, .ref (B + 564))] []
  refine g_aload_n F dX5_empty_0 rfl 0 rfl ?_
  refine g_iconst F (v := 0) dX5_empty_1 (by decide) ?_
  refine gp5_length F iX5_empty_5 r564 rfl (by decide +kernel) dX5_empty_2 ?_
  exact K _ _ _ dX5_empty_5 ⟨rfl, rfl⟩

abbrev rmX5_goToStart : Room := { frames := 0, cells := 0, slots := 0, locals := 0 }
theorem iX5_goToStart_5 : ∀ w ∈ u_ws RX5 TX5 6, w ∈ wsX5_goToStart := by decide +kernel
set_option maxHeartbeats 4000000 in
set_option maxRecDepth 100000 in
theorem kX5_goToStart (l : Launch) {M : Mm}  : Ct l yX5_goToStart wsX5_goToStart rmX5_goToStart (fun B => [.ref (B + 564)]) M (fun _ v u => v = none ∧ u = va_up M 564 (upd (M 564) 1 0)) := by
  refine Ct.ofV (own := RX5) (by decide +kernel) rfl rfl (fun B => Nat.le_of_ble_eq_true rfl) ?_
  intro pp ee ss mm aa bb me c9 DD ca B Tl AA QQ F K
  show G pp l ee rmX5_goToStart ss mm aa bb me c9 QQ DD ca B Tl AA 1 0 0 M 0 [(0, .ref (B + 564))] []
  refine g_aload_n F dX5_goToStart_0 rfl 0 rfl ?_
  refine g_iconst F (v := 0) dX5_goToStart_1 (by decide) ?_
  refine gp5_place F iX5_goToStart_5 r564 rfl (by decide +kernel) dX5_goToStart_2 ?_
  exact K _ _ _ dX5_goToStart_5 ⟨rfl, rfl⟩

abbrev rmX5_room : Room := { frames := 0, cells := 0, slots := 0, locals := 0 }
theorem iX5_room_5 : ∀ w ∈ u_ws RX5 TX5 6, w ∈ wsX5_room := by decide +kernel
set_option maxHeartbeats 4000000 in
set_option maxRecDepth 100000 in
theorem kX5_room (l : Launch) {M : Mm}  : Ct l yX5_room wsX5_room rmX5_room (fun B => [.ref (B + 564)]) M (fun _ v u => v = some (.int (60 - M 564 2)) ∧ u = M) := by
  refine Ct.ofI (own := RX5) (by decide +kernel) rfl rfl (fun B => Nat.le_of_ble_eq_true rfl) ?_
  intro pp ee ss mm aa bb me c9 DD ca B Tl AA QQ F K
  show G pp l ee rmX5_room ss mm aa bb me c9 QQ DD ca B Tl AA 1 0 0 M 0 [(0, .ref (B + 564))] []
  refine g_bipush F (v := 60) dX5_room_0 (by decide +kernel) ?_
  refine g_aload_n F dX5_room_2 rfl 0 rfl ?_
  refine gg5_length F iX5_room_5 r564 (by decide +kernel) dX5_room_3 ?_
  refine g_isub F dX5_room_6 ?_
  exact K _ _ _ _ dX5_room_7 rfl ⟨rfl, rfl⟩
