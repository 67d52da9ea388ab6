/-- the place in the text and its length -/
def AL (g : Nat → Int32) : Prop := ∃ a L, a ≤ L ∧ L ≤ 60 ∧ g 9 = nI a ∧ g 8 = nI L
def atR (f g : Nat → Int32) : Int32 := f (g 9).toNatClampNeg
def takesR (f g : Nat → Int32) (x : Int32) : PR := if g 9 = g 8 then (false, g) else if atR f g = x then (true, upd g 9 (g 9 + 1)) else (false, g)
def digR (f g : Nat → Int32) (m : Int32) : PR := if g 9 = g 8 then (false, g) else if 0 ≤ atR f g - 48 ∧ atR f g - 48 ≤ m then (true, upd (upd g 10 (atR f g - 48)) 9 (g 9 + 1)) else (false, g)
theorem atR_n {f g : Nat → Int32} {a : Nat} (e : g 9 = nI a) (h : a < 1000) : atR f g = f a := by rw [atR, e, nI_clamp (by omega)]
theorem AL_lt {g : Nat → Int32} {a L : Nat} (haL : a ≤ L) (hL : L ≤ 60) (ea : g 9 = nI a) (eL : g 8 = nI L) (h : ¬ g 9 = g 8) : a < L := by
  refine Nat.lt_of_le_of_ne haL (fun z => h ?_)
  rw [ea, eL, z]
theorem AL_up {g h : Nat → Int32} {a L : Nat} (haL : a < L) (hL : L ≤ 60) (ea : g 9 = nI a) (eL : g 8 = nI L) (h9 : h 9 = g 9 + 1) (h8 : h 8 = g 8) : AL h := ⟨a + 1, L, haL, hL, by rw [h9, ea]; exact nI_add a 1, by rw [h8, eL]⟩
theorem AL_of {g h : Nat → Int32} (r : AL g) (h9 : h 9 = g 9) (h8 : h 8 = g 8) : AL h := by
  obtain ⟨a, L, h1, h2, h3, h4⟩ := r
  exact ⟨a, L, h1, h2, by rw [h9, h3], by rw [h8, h4]⟩
theorem digR_AL {f g : Nat → Int32} {m : Int32} (r : AL g) : AL (digR f g m).2 := by
  unfold digR
  by_cases h : g 9 = g 8
  · rw [if_pos h]; exact r
  · rw [if_neg h]
    split
    · obtain ⟨a, L, h1, h2, h3, h4⟩ := r
      exact AL_up (AL_lt h1 h2 h3 h4 h) h2 h3 h4 rfl rfl
    · exact r
theorem takesR_AL {f g : Nat → Int32} {m : Int32} (r : AL g) : AL (takesR f g m).2 := by
  unfold takesR
  by_cases h : g 9 = g 8
  · rw [if_pos h]; exact r
  · rw [if_neg h]
    split
    · obtain ⟨a, L, h1, h2, h3, h4⟩ := r
      exact AL_up (AL_lt h1 h2 h3 h4 h) h2 h3 h4 rfl rfl
    · exact r
/-- two digits, taken into one and two -/
def prG (d : PR) : Nat → Int32 := upd d.2 12 (d.2 10)
def pr2 (e : PR) : PR := (e.1, upd e.2 13 (e.2 10))
def pairR (f g : Nat → Int32) (m o : Int32) : PR := if (digR f g m).1 = true then pr2 (digR f (prG (digR f g m)) o) else (false, upd (prG (digR f g m)) 13 (prG (digR f g m) 10))
theorem prG_AL {f g : Nat → Int32} {m : Int32} (r : AL g) : AL (prG (digR f g m)) := AL_of (digR_AL r) rfl rfl

abbrev rmX9_takes : Room := { frames := 0, cells := 0, slots := 0, locals := 0 }
theorem iX9_takes_9 : ∀ w ∈ u_ws RX9 TX9 15, w ∈ wsX9_takes := by decide +kernel
set_option maxHeartbeats 200000 in
set_option maxRecDepth 100000 in
theorem kX9_takes (l : Launch) {M : Mm} (hA : AL (M 709)) (x : Int32) : Ct l yX9_takes wsX9_takes rmX9_takes (fun B => [.ref (B + 709), .int x]) M (fun _ v u => v = some (.int (b2i ((takesR (M 715) (M 709) x).1 = true))) ∧ u = va_up M 709 (takesR (M 715) (M 709) x).2) := by
  refine Ct.ofI (own := RX9) (by decide +kernel) rfl rfl (fun B => Nat.le_of_ble_eq_true rfl) ?_
  intro pp ee ss mm aa bb me c9 DD ca B Tl AA QQ F K
  show G pp l ee rmX9_takes ss mm aa bb me c9 QQ DD ca B Tl AA 2 0 0 M 0 [(0, .ref (B + 709)), (1, .int x)] []
  obtain ⟨a, L, haL, hL, ea, eL⟩ := hA
  refine g_aload_n F dX9_takes_0 rfl 0 rfl ?_
  refine gg9_at F iX9_takes_9 r709 (by decide +kernel) dX9_takes_1 ?_
  refine g_aload_n F dX9_takes_4 rfl 0 rfl ?_
  refine gg9_length F iX9_takes_9 r709 (by decide +kernel) dX9_takes_5 ?_
  refine g_icmp_eq F 24 dX9_takes_8 (by decide) (fun h1 => ?_) (fun h1 => ?_)
  · have e0 : takesR (M 715) (M 709) x = (false, M 709) := if_pos h1
    refine g_iconst F (v := 0) dX9_takes_24 (by decide) ?_
    exact K _ _ _ _ dX9_takes_25 (by first | exact (bit_z bit_0).1 | exact (bit_z bit_1).1) ⟨by rw [e0]; rfl, by rw [e0]; first | done | rfl | exact (up_id M 709).symm⟩
  · have haL2 : a < L := AL_lt haL hL ea eL h1
    refine g_aload_n F dX9_takes_11 rfl 0 rfl ?_
    refine gg9_text F iX9_takes_9 r709 (by decide +kernel) dX9_takes_12 ?_
    refine g_aload_n F dX9_takes_15 rfl 0 rfl ?_
    refine gg9_at F iX9_takes_9 r709 (by decide +kernel) dX9_takes_16 ?_
    refine g_top (y := nI a) ea ?_
    refine g_iaload (r := 715) F a715 (a) rfl (by omega) (by decide) dX9_takes_19 ?_
    refine g_iload_n F dX9_takes_20 rfl 1 rfl ?_
    refine g_icmp_eq F 26 dX9_takes_21 (by decide) (fun h2 => ?_) (fun h2 => ?_)
    · have e0 : takesR (M 715) (M 709) x = (true, upd (M 709) 9 (M 709 9 + 1)) := (if_neg h1).trans (if_pos ((atR_n ea (by omega)).trans h2))
      refine g_aload_n F dX9_takes_26 rfl 0 rfl ?_
      refine g_dup F dX9_takes_27 rfl ?_
      refine gg9_at F iX9_takes_9 r709 (by decide +kernel) dX9_takes_28 ?_
      refine g_iconst F (v := 1) dX9_takes_31 (by decide) ?_
      refine g_iadd F dX9_takes_32 ?_
      refine gp9_at F iX9_takes_9 r709 (by decide +kernel) dX9_takes_33 ?_
      refine g_iconst F (v := 1) dX9_takes_36 (by decide) ?_
      exact K _ _ _ _ dX9_takes_37 (by first | exact (bit_z bit_0).1 | exact (bit_z bit_1).1) ⟨by rw [e0]; rfl, by rw [e0]; first | done | rfl | exact (up_id M 709).symm⟩
    · have e0 : takesR (M 715) (M 709) x = (false, M 709) := (if_neg h1).trans (if_neg (fun z => h2 ((atR_n ea (by omega)).symm.trans z)))
      refine g_iconst F (v := 0) dX9_takes_24 (by decide) ?_
      exact K _ _ _ _ dX9_takes_25 (by first | exact (bit_z bit_0).1 | exact (bit_z bit_1).1) ⟨by rw [e0]; rfl, by rw [e0]; first | done | rfl | exact (up_id M 709).symm⟩

abbrev rmX9_digit : Room := { frames := 1, cells := 0, slots := 0, locals := 22 }
theorem iX9_digit_9 : ∀ w ∈ u_ws RX9 TX9 15, w ∈ wsX9_digit := by decide +kernel
set_option maxHeartbeats 200000 in
set_option maxRecDepth 100000 in
theorem kX9_digit (l : Launch) {M : Mm} (hA : AL (M 709)) (x : Int32) : Ct l yX9_digit wsX9_digit rmX9_digit (fun B => [.ref (B + 709), .int x]) M (fun _ v u => v = some (.int (b2i ((digR (M 715) (M 709) x).1 = true))) ∧ u = va_up M 709 (digR (M 715) (M 709) x).2) := by
  refine Ct.ofI (own := RX9) (by decide +kernel) rfl rfl (fun B => Nat.le_of_ble_eq_true rfl) ?_
  intro pp ee ss mm aa bb me c9 DD ca B Tl AA QQ F K
  show G pp l ee rmX9_digit ss mm aa bb me c9 QQ DD ca B Tl AA 2 0 0 M 0 [(0, .ref (B + 709)), (1, .int x)] []
  obtain ⟨a, L, haL, hL, ea, eL⟩ := hA
  refine g_aload_n F dX9_digit_0 rfl 0 rfl ?_
  refine gg9_at F iX9_digit_9 r709 (by decide +kernel) dX9_digit_1 ?_
  refine g_aload_n F dX9_digit_4 rfl 0 rfl ?_
  refine gg9_length F iX9_digit_9 r709 (by decide +kernel) dX9_digit_5 ?_
  refine g_icmp_eq F 31 dX9_digit_8 (by decide) (fun h1 => ?_) (fun h1 => ?_)
  · have e0 : digR (M 715) (M 709) x = (false, M 709) := if_pos h1
    refine g_iconst F (v := 0) dX9_digit_31 (by decide) ?_
    exact K _ _ _ _ dX9_digit_32 (by first | exact (bit_z bit_0).1 | exact (bit_z bit_1).1) ⟨by rw [e0]; rfl, by rw [e0]; first | done | rfl | exact (up_id M 709).symm⟩
  · have haL2 : a < L := AL_lt haL hL ea eL h1
    refine g_aload_n F dX9_digit_11 rfl 0 rfl ?_
    refine gg9_text F iX9_digit_9 r709 (by decide +kernel) dX9_digit_12 ?_
    refine g_aload_n F dX9_digit_15 rfl 0 rfl ?_
    refine gg9_at F iX9_digit_9 r709 (by decide +kernel) dX9_digit_16 ?_
    refine g_top (y := nI a) ea ?_
    refine g_iaload (r := 715) F a715 (a) rfl (by omega) (by decide) dX9_digit_19 ?_
    refine g_top (y := atR (M 715) (M 709)) (atR_n ea (by omega)).symm ?_
    refine g_bipush F (v := 48) dX9_digit_20 (by decide +kernel) ?_
    refine g_isub F dX9_digit_22 ?_
    refine g_iconst F (v := 0) dX9_digit_23 (by decide) ?_
    refine g_iload_n F dX9_digit_24 rfl 1 rfl ?_
    refine g_callS F (kX9_within l _ _ _) (va_cwS 3 F.1.2.2.2.2 gX9_digit_X9_within rfl rfl rfl (by decide +kernel) ⟨Nat.le_of_ble_eq_true rfl, Nat.le_of_ble_eq_true rfl⟩) rfl rfl rfl (Nat.le_of_ble_eq_true rfl) dX9_digit_25 ⟨Nat.le_of_ble_eq_true rfl, Nat.le_of_ble_eq_true rfl⟩ (g_det ?_)
    refine g_ifB_ne F 33 dX9_digit_28 (by decide) (fun h2 => ?_) (fun h2 => ?_)
    · have e0 : digR (M 715) (M 709) x = (true, upd (upd (M 709) 10 (atR (M 715) (M 709) - 48)) 9 (M 709 9 + 1)) := (if_neg h1).trans (if_pos h2)
      refine g_aload_n F dX9_digit_33 rfl 0 rfl ?_
      refine g_aload_n F dX9_digit_34 rfl 0 rfl ?_
      refine gg9_text F iX9_digit_9 r709 (by decide +kernel) dX9_digit_35 ?_
      refine g_aload_n F dX9_digit_38 rfl 0 rfl ?_
      refine gg9_at F iX9_digit_9 r709 (by decide +kernel) dX9_digit_39 ?_
      refine g_top (y := nI a) ea ?_
      refine g_iaload (r := 715) F a715 (a) rfl (by omega) (by decide) dX9_digit_42 ?_
      refine g_top (y := atR (M 715) (M 709)) (atR_n ea (by omega)).symm ?_
      refine g_bipush F (v := 48) dX9_digit_43 (by decide +kernel) ?_
      refine g_isub F dX9_digit_45 ?_
      refine gp9_number F iX9_digit_9 r709 (by decide +kernel) dX9_digit_46 ?_
      try simp only [bx_uu, va_up_self]
      refine g_aload_n F dX9_digit_49 rfl 0 rfl ?_
      refine g_dup F dX9_digit_50 rfl ?_
      refine gg9_at F iX9_digit_9 r709 (by decide +kernel) dX9_digit_51 ?_
      refine g_iconst F (v := 1) dX9_digit_54 (by decide) ?_
      refine g_iadd F dX9_digit_55 ?_
      refine gp9_at F iX9_digit_9 r709 (by decide +kernel) dX9_digit_56 ?_
      try simp only [bx_uu, va_up_self]
      refine g_iconst F (v := 1) dX9_digit_59 (by decide) ?_
      exact K _ _ _ _ dX9_digit_60 (by first | exact (bit_z bit_0).1 | exact (bit_z bit_1).1) ⟨by rw [e0]; rfl, by rw [e0]; first | done | rfl | exact (up_id M 709).symm⟩
    · have e0 : digR (M 715) (M 709) x = (false, M 709) := (if_neg h1).trans (if_neg h2)
      refine g_iconst F (v := 0) dX9_digit_31 (by decide) ?_
      exact K _ _ _ _ dX9_digit_32 (by first | exact (bit_z bit_0).1 | exact (bit_z bit_1).1) ⟨by rw [e0]; rfl, by rw [e0]; first | done | rfl | exact (up_id M 709).symm⟩

abbrev rmX9_pair : Room := { frames := 2, cells := 0, slots := 0, locals := 43 }
theorem iX9_pair_9 : ∀ w ∈ u_ws RX9 TX9 15, w ∈ wsX9_pair := by decide +kernel
set_option maxHeartbeats 200000 in
set_option maxRecDepth 100000 in
theorem kX9_pair (l : Launch) {M : Mm} (hA : AL (M 709)) (x y : Int32) : Ct l yX9_pair wsX9_pair rmX9_pair (fun B => [.ref (B + 709), .int x, .int y]) M (fun _ v u => v = some (.int (b2i ((pairR (M 715) (M 709) x y).1 = true))) ∧ u = va_up M 709 (pairR (M 715) (M 709) x y).2) := by
  refine Ct.ofI (own := RX9) (by decide +kernel) rfl rfl (fun B => Nat.le_of_ble_eq_true rfl) ?_
  intro pp ee ss mm aa bb me c9 DD ca B Tl AA QQ F K
  show G pp l ee rmX9_pair ss mm aa bb me c9 QQ DD ca B Tl AA 4 0 0 M 0 [(0, .ref (B + 709)), (1, .int x), (2, .int y)] []
  refine g_aload_n F dX9_pair_0 rfl 0 rfl ?_
  refine g_iload_n F dX9_pair_1 rfl 1 rfl ?_
  refine g_callV F (kX9_digit l hA _) (cwV 1 F.1.2.2.2.2 gX9_pair_X9_digit rfl rfl rfl (by decide +kernel) ⟨Nat.le_of_ble_eq_true rfl, Nat.le_of_ble_eq_true rfl⟩) r709 (by decide) rfl rfl rfl rfl (Nat.le_of_ble_eq_true rfl) dX9_pair_2 ⟨Nat.le_of_ble_eq_true rfl, Nat.le_of_ble_eq_true rfl⟩ (g_det ?_)
  refine g_istore_n F (lv2 := [(3, _), (0, _), (1, _), (2, _)]) dX9_pair_5 rfl (by decide) rfl ?_
  refine g_aload_n F dX9_pair_6 rfl 1 rfl ?_
  refine g_aload_n F dX9_pair_7 rfl 1 rfl ?_
  refine gg9_number F iX9_pair_9 r709 (by decide +kernel) dX9_pair_8 ?_
  refine gp9_one F iX9_pair_9 r709 (by decide +kernel) dX9_pair_11 ?_
  refine g_mem (show _ = va_up M 709 (prG (digR (M 715) (M 709) x)) by rw [bx_uu, va_up_self]; rfl) ?_
  refine g_iload_n F dX9_pair_14 rfl 0 rfl ?_
  refine g_ifB_eq F 30 dX9_pair_15 (by decide) (fun h1 => ?_) (fun h1 => ?_)
  · have e0 : pairR (M 715) (M 709) x y = _ := if_neg h1
    refine g_iconst F (v := 0) dX9_pair_30 (by decide) ?_
    refine g_istore_n F (lv2 := [(3, _), (0, _), (1, _), (2, _)]) dX9_pair_31 rfl (by decide) rfl ?_
    refine g_aload_n F dX9_pair_32 rfl 1 rfl ?_
    refine g_aload_n F dX9_pair_33 rfl 1 rfl ?_
    refine gg9_number F iX9_pair_9 r709 (by decide +kernel) dX9_pair_34 ?_
    refine gp9_two F iX9_pair_9 r709 (by decide +kernel) dX9_pair_37 ?_
    try simp only [bx_uu, va_up_self]
    refine g_iload_n F dX9_pair_40 rfl 0 rfl ?_
    exact K _ _ _ _ dX9_pair_41 (by first | exact (bit_z bit_0).1 | exact (bit_z bit_1).1 | exact b2i_nar _) ⟨by rw [e0]; first | rfl | (rw [pr2, ← e2]; rfl), by rw [e0]; first | done | rfl⟩
  · have e0 : pairR (M 715) (M 709) x y = _ := if_pos h1
    refine g_aload_n F dX9_pair_18 rfl 1 rfl ?_
    refine g_iload_n F dX9_pair_19 rfl 3 rfl ?_
    refine g_callV F (kX9_digit l (M := va_up M 709 (prG (digR (M 715) (M 709) x))) (by rw [va_up_self]; exact prG_AL hA) _) (cwV 1 F.1.2.2.2.2 gX9_pair_X9_digit rfl rfl rfl (by decide +kernel) ⟨Nat.le_of_ble_eq_true rfl, Nat.le_of_ble_eq_true rfl⟩) r709 (by decide) rfl rfl rfl rfl (Nat.le_of_ble_eq_true rfl) dX9_pair_20 ⟨Nat.le_of_ble_eq_true rfl, Nat.le_of_ble_eq_true rfl⟩ (g_det ?_)
    refine g_mem (show _ = va_up M 709 (digR (M 715) (prG (digR (M 715) (M 709) x)) y).2 by rw [bx_uu, va_up_self]; rfl) ?_
    refine g_top (show _ = b2i ((digR (M 715) (prG (digR (M 715) (M 709) x)) y).1 = true) by rw [va_up_self]; rfl) ?_
    refine g_ifB_eq F 30 dX9_pair_23 (by decide) (fun h2 => ?_) (fun h2 => ?_)
    · have e2 := pr_f h2
      refine g_iconst F (v := 0) dX9_pair_30 (by decide) ?_
      refine g_istore_n F (lv2 := [(3, _), (0, _), (1, _), (2, _)]) dX9_pair_31 rfl (by decide) rfl ?_
      refine g_aload_n F dX9_pair_32 rfl 1 rfl ?_
      refine g_aload_n F dX9_pair_33 rfl 1 rfl ?_
      refine gg9_number F iX9_pair_9 r709 (by decide +kernel) dX9_pair_34 ?_
      refine gp9_two F iX9_pair_9 r709 (by decide +kernel) dX9_pair_37 ?_
      try simp only [bx_uu, va_up_self]
      refine g_iload_n F dX9_pair_40 rfl 0 rfl ?_
      exact K _ _ _ _ dX9_pair_41 (by first | exact (bit_z bit_0).1 | exact (bit_z bit_1).1 | exact b2i_nar _) ⟨by rw [e0]; first | rfl | (rw [pr2, ← e2]; rfl), by rw [e0]; first | done | rfl⟩
    · have e2 := pr_t h2
      refine g_iconst F (v := 1) dX9_pair_26 (by decide) ?_
      refine g_goto F 31 dX9_pair_27 (by decide) ?_
      refine g_istore_n F (lv2 := [(3, _), (0, _), (1, _), (2, _)]) dX9_pair_31 rfl (by decide) rfl ?_
      refine g_aload_n F dX9_pair_32 rfl 1 rfl ?_
      refine g_aload_n F dX9_pair_33 rfl 1 rfl ?_
      refine gg9_number F iX9_pair_9 r709 (by decide +kernel) dX9_pair_34 ?_
      refine gp9_two F iX9_pair_9 r709 (by decide +kernel) dX9_pair_37 ?_
      try simp only [bx_uu, va_up_self]
      refine g_iload_n F dX9_pair_40 rfl 0 rfl ?_
      exact K _ _ _ _ dX9_pair_41 (by first | exact (bit_z bit_0).1 | exact (bit_z bit_1).1 | exact b2i_nar _) ⟨by rw [e0]; first | rfl | (rw [pr2, ← e2]; rfl), by rw [e0]; first | done | rfl⟩
