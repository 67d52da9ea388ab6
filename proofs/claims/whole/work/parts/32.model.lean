theorem r709 : isR 9 709 := ⟨by decide, by decide +kernel⟩
theorem a710 : isA 11 1804 710 := ⟨by decide, by decide +kernel, by decide +kernel⟩
theorem a711 : isA 11 10824 711 := ⟨by decide, by decide +kernel, by decide +kernel⟩
theorem a712 : isA 11 3608 712 := ⟨by decide, by decide +kernel, by decide +kernel⟩
theorem a713 : isA 11 2 713 := ⟨by decide, by decide +kernel, by decide +kernel⟩
theorem a714 : isA 11 1804 714 := ⟨by decide, by decide +kernel, by decide +kernel⟩
theorem a715 : isA 11 60 715 := ⟨by decide, by decide +kernel, by decide +kernel⟩
theorem a716 : isA 11 8 716 := ⟨by decide, by decide +kernel, by decide +kernel⟩

abbrev rmX9_thrown : Room := { frames := 0, cells := 0, slots := 0, locals := 0 }
theorem iX9_thrown_9 : ∀ w ∈ u_ws RX9 TX9 15, w ∈ wsX9_thrown := by decide +kernel
set_option maxHeartbeats 400000 in
set_option maxRecDepth 100000 in
theorem kX9_thrown (l : Launch) {M : Mm}  : Ct l yX9_thrown wsX9_thrown rmX9_thrown (fun B => [.ref (B + 709)]) M (fun _ v u => v = some (.int (M 709 0)) ∧ u = M) := by
  refine Ct.ofI (own := RX9) (by decide +kernel) rfl rfl (fun B => Nat.le_of_ble_eq_true rfl) ?_
  intro pp ee ss mm aa bb me c9 DD ca B Tl AA QQ F K
  show G pp l ee rmX9_thrown ss mm aa bb me c9 QQ DD ca B Tl AA 1 0 0 M 0 [(0, .ref (B + 709))] []
  refine g_aload_n F dX9_thrown_0 rfl 0 rfl ?_
  refine gg9_thrown F iX9_thrown_9 r709 (by decide +kernel) dX9_thrown_1 ?_
  exact K _ _ _ _ dX9_thrown_4 rfl ⟨rfl, rfl⟩

abbrev rmX9_fails : Room := { frames := 0, cells := 0, slots := 0, locals := 0 }
theorem iX9_fails_9 : ∀ w ∈ u_ws RX9 TX9 15, w ∈ wsX9_fails := by decide +kernel
set_option maxHeartbeats 400000 in
set_option maxRecDepth 100000 in
theorem kX9_fails (l : Launch) {M : Mm} (x : Int32) : Ct l yX9_fails wsX9_fails rmX9_fails (fun B => [.ref (B + 709), .int x]) M (fun _ v u => v = some (.int (0)) ∧ u = va_up M 709 (upd (M 709) 0 x)) := by
  refine Ct.ofI (own := RX9) (by decide +kernel) rfl rfl (fun B => Nat.le_of_ble_eq_true rfl) ?_
  intro pp ee ss mm aa bb me c9 DD ca B Tl AA QQ F K
  show G pp l ee rmX9_fails ss mm aa bb me c9 QQ DD ca B Tl AA 2 0 0 M 0 [(0, .ref (B + 709)), (1, .int x)] []
  refine g_aload_n F dX9_fails_0 rfl 0 rfl ?_
  refine g_iload_n F dX9_fails_1 rfl 1 rfl ?_
  refine gp9_thrown F iX9_fails_9 r709 (by decide +kernel) dX9_fails_2 ?_
  refine g_iconst F (v := 0) dX9_fails_5 (by decide) ?_
  exact K _ _ _ _ dX9_fails_6 rfl ⟨rfl, rfl⟩

abbrev rmX9_within : Room := { frames := 0, cells := 0, slots := 0, locals := 0 }
set_option maxHeartbeats 400000 in
set_option maxRecDepth 100000 in
theorem kX9_within (l : Launch) {M : Mm} (x y z : Int32) : Ct l yX9_within wsX9_within rmX9_within (fun B => [.int x, .int y, .int z]) M (fun _ v u => v = some (.int (b2i (y ≤ x ∧ x ≤ z))) ∧ u = M) := by
  refine Ct.ofI (own := RX9) (by decide +kernel) rfl rfl (fun B => Nat.le_of_ble_eq_true rfl) ?_
  intro pp ee ss mm aa bb me c9 DD ca B Tl AA QQ F K
  show G pp l ee rmX9_within ss mm aa bb me c9 QQ DD ca B Tl AA 3 0 0 M 0 [(0, .int x), (1, .int y), (2, .int z)] []
  refine g_iload_n F dX9_within_0 rfl 0 rfl ?_
  refine g_iload_n F dX9_within_1 rfl 1 rfl ?_
  refine g_icmp_lt F 14 dX9_within_2 (by decide) (fun h1 => ?_) (fun h1 => ?_)
  · refine g_iconst F (v := 0) dX9_within_14 (by decide) ?_
    exact K _ _ _ _ dX9_within_15 (by first | exact (bit_z bit_0).1 | exact (bit_z bit_1).1) ⟨by first | exact congrArg (fun q => some (Value.int q)) (b2i_f (fun q => Int32.not_le.mpr h1 q.1)).symm | exact congrArg (fun q => some (Value.int q)) (b2i_f (fun q => Int32.not_le.mpr h2 q.2)).symm | exact congrArg (fun q => some (Value.int q)) (b2i_t ⟨Int32.not_lt.mp h1, Int32.not_lt.mp h2⟩).symm, rfl⟩
  · refine g_iload_n F dX9_within_5 rfl 0 rfl ?_
    refine g_iload_n F dX9_within_6 rfl 2 rfl ?_
    refine g_icmp_gt F 14 dX9_within_7 (by decide) (fun h2 => ?_) (fun h2 => ?_)
    · refine g_iconst F (v := 0) dX9_within_14 (by decide) ?_
      exact K _ _ _ _ dX9_within_15 (by first | exact (bit_z bit_0).1 | exact (bit_z bit_1).1) ⟨by first | exact congrArg (fun q => some (Value.int q)) (b2i_f (fun q => Int32.not_le.mpr h1 q.1)).symm | exact congrArg (fun q => some (Value.int q)) (b2i_f (fun q => Int32.not_le.mpr h2 q.2)).symm | exact congrArg (fun q => some (Value.int q)) (b2i_t ⟨Int32.not_lt.mp h1, Int32.not_lt.mp h2⟩).symm, rfl⟩
    · refine g_iconst F (v := 1) dX9_within_10 (by decide) ?_
      refine g_goto F 15 dX9_within_11 (by decide) ?_
      exact K _ _ _ _ dX9_within_15 (by first | exact (bit_z bit_0).1 | exact (bit_z bit_1).1) ⟨by first | exact congrArg (fun q => some (Value.int q)) (b2i_f (fun q => Int32.not_le.mpr h1 q.1)).symm | exact congrArg (fun q => some (Value.int q)) (b2i_f (fun q => Int32.not_le.mpr h2 q.2)).symm | exact congrArg (fun q => some (Value.int q)) (b2i_t ⟨Int32.not_lt.mp h1, Int32.not_lt.mp h2⟩).symm, rfl⟩

abbrev rmX9_isChimney : Room := { frames := 1, cells := 0, slots := 0, locals := 22 }
set_option maxHeartbeats 400000 in
set_option maxRecDepth 100000 in
theorem kX9_isChimney (l : Launch) {M : Mm} (x : Int32) : Ct l yX9_isChimney wsX9_isChimney rmX9_isChimney (fun B => [.int x]) M (fun _ v u => v = some (.int (b2i (0 ≤ x ∧ x ≤ 7))) ∧ u = M) := by
  refine Ct.ofI (own := RX9) (by decide +kernel) rfl rfl (fun B => Nat.le_of_ble_eq_true rfl) ?_
  intro pp ee ss mm aa bb me c9 DD ca B Tl AA QQ F K
  show G pp l ee rmX9_isChimney ss mm aa bb me c9 QQ DD ca B Tl AA 1 0 0 M 0 [(0, .int x)] []
  refine g_iload_n F dX9_isChimney_0 rfl 0 rfl ?_
  refine g_iconst F (v := 0) dX9_isChimney_1 (by decide) ?_
  refine g_bipush F (v := 7) dX9_isChimney_2 (by decide +kernel) ?_
  refine g_callS F (kX9_within l _ _ _) (va_cwS 3 F.1.2.2.2.2 gX9_isChimney_X9_within rfl rfl rfl (by decide +kernel) ⟨Nat.le_of_ble_eq_true rfl, Nat.le_of_ble_eq_true rfl⟩) rfl rfl rfl (Nat.le_of_ble_eq_true rfl) dX9_isChimney_4 ⟨Nat.le_of_ble_eq_true rfl, Nat.le_of_ble_eq_true rfl⟩ (g_det ?_)
  exact K _ _ _ _ dX9_isChimney_7 (b2i_nar _) ⟨rfl, rfl⟩

abbrev rmX9_isObserver : Room := { frames := 1, cells := 0, slots := 0, locals := 22 }
set_option maxHeartbeats 400000 in
set_option maxRecDepth 100000 in
theorem kX9_isObserver (l : Launch) {M : Mm} (x : Int32) : Ct l yX9_isObserver wsX9_isObserver rmX9_isObserver (fun B => [.int x]) M (fun _ v u => v = some (.int (b2i (0 ≤ x ∧ x ≤ 2))) ∧ u = M) := by
  refine Ct.ofI (own := RX9) (by decide +kernel) rfl rfl (fun B => Nat.le_of_ble_eq_true rfl) ?_
  intro pp ee ss mm aa bb me c9 DD ca B Tl AA QQ F K
  show G pp l ee rmX9_isObserver ss mm aa bb me c9 QQ DD ca B Tl AA 1 0 0 M 0 [(0, .int x)] []
  refine g_iload_n F dX9_isObserver_0 rfl 0 rfl ?_
  refine g_iconst F (v := 0) dX9_isObserver_1 (by decide) ?_
  refine g_iconst F (v := 2) dX9_isObserver_2 (by decide) ?_
  refine g_callS F (kX9_within l _ _ _) (va_cwS 3 F.1.2.2.2.2 gX9_isObserver_X9_within rfl rfl rfl (by decide +kernel) ⟨Nat.le_of_ble_eq_true rfl, Nat.le_of_ble_eq_true rfl⟩) rfl rfl rfl (Nat.le_of_ble_eq_true rfl) dX9_isObserver_3 ⟨Nat.le_of_ble_eq_true rfl, Nat.le_of_ble_eq_true rfl⟩ (g_det ?_)
  exact K _ _ _ _ dX9_isObserver_6 (b2i_nar _) ⟨rfl, rfl⟩

abbrev rmX9_isTick : Room := { frames := 1, cells := 0, slots := 0, locals := 22 }
set_option maxHeartbeats 400000 in
set_option maxRecDepth 100000 in
theorem kX9_isTick (l : Launch) {M : Mm} (x : Int32) : Ct l yX9_isTick wsX9_isTick rmX9_isTick (fun B => [.int x]) M (fun _ v u => v = some (.int (b2i (0 ≤ x ∧ x ≤ 95))) ∧ u = M) := by
  refine Ct.ofI (own := RX9) (by decide +kernel) rfl rfl (fun B => Nat.le_of_ble_eq_true rfl) ?_
  intro pp ee ss mm aa bb me c9 DD ca B Tl AA QQ F K
  show G pp l ee rmX9_isTick ss mm aa bb me c9 QQ DD ca B Tl AA 1 0 0 M 0 [(0, .int x)] []
  refine g_iload_n F dX9_isTick_0 rfl 0 rfl ?_
  refine g_iconst F (v := 0) dX9_isTick_1 (by decide) ?_
  refine g_bipush F (v := 95) dX9_isTick_2 (by decide +kernel) ?_
  refine g_callS F (kX9_within l _ _ _) (va_cwS 3 F.1.2.2.2.2 gX9_isTick_X9_within rfl rfl rfl (by decide +kernel) ⟨Nat.le_of_ble_eq_true rfl, Nat.le_of_ble_eq_true rfl⟩) rfl rfl rfl (Nat.le_of_ble_eq_true rfl) dX9_isTick_4 ⟨Nat.le_of_ble_eq_true rfl, Nat.le_of_ble_eq_true rfl⟩ (g_det ?_)
  exact K _ _ _ _ dX9_isTick_7 (b2i_nar _) ⟨rfl, rfl⟩

abbrev rmX9_isHour : Room := { frames := 1, cells := 0, slots := 0, locals := 22 }
set_option maxHeartbeats 400000 in
set_option maxRecDepth 100000 in
theorem kX9_isHour (l : Launch) {M : Mm} (x : Int32) : Ct l yX9_isHour wsX9_isHour rmX9_isHour (fun B => [.int x]) M (fun _ v u => v = some (.int (b2i (0 ≤ x ∧ x ≤ 23))) ∧ u = M) := by
  refine Ct.ofI (own := RX9) (by decide +kernel) rfl rfl (fun B => Nat.le_of_ble_eq_true rfl) ?_
  intro pp ee ss mm aa bb me c9 DD ca B Tl AA QQ F K
  show G pp l ee rmX9_isHour ss mm aa bb me c9 QQ DD ca B Tl AA 1 0 0 M 0 [(0, .int x)] []
  refine g_iload_n F dX9_isHour_0 rfl 0 rfl ?_
  refine g_iconst F (v := 0) dX9_isHour_1 (by decide) ?_
  refine g_bipush F (v := 23) dX9_isHour_2 (by decide +kernel) ?_
  refine g_callS F (kX9_within l _ _ _) (va_cwS 3 F.1.2.2.2.2 gX9_isHour_X9_within rfl rfl rfl (by decide +kernel) ⟨Nat.le_of_ble_eq_true rfl, Nat.le_of_ble_eq_true rfl⟩) rfl rfl rfl (Nat.le_of_ble_eq_true rfl) dX9_isHour_4 ⟨Nat.le_of_ble_eq_true rfl, Nat.le_of_ble_eq_true rfl⟩ (g_det ?_)
  exact K _ _ _ _ dX9_isHour_7 (b2i_nar _) ⟨rfl, rfl⟩

abbrev rmX9_isPass : Room := { frames := 1, cells := 0, slots := 0, locals := 22 }
set_option maxHeartbeats 400000 in
set_option maxRecDepth 100000 in
theorem kX9_isPass (l : Launch) {M : Mm} (x : Int32) : Ct l yX9_isPass wsX9_isPass rmX9_isPass (fun B => [.int x]) M (fun _ v u => v = some (.int (b2i (1 ≤ x ∧ x ≤ 200))) ∧ u = M) := by
  refine Ct.ofI (own := RX9) (by decide +kernel) rfl rfl (fun B => Nat.le_of_ble_eq_true rfl) ?_
  intro pp ee ss mm aa bb me c9 DD ca B Tl AA QQ F K
  show G pp l ee rmX9_isPass ss mm aa bb me c9 QQ DD ca B Tl AA 1 0 0 M 0 [(0, .int x)] []
  refine g_iload_n F dX9_isPass_0 rfl 0 rfl ?_
  refine g_iconst F (v := 1) dX9_isPass_1 (by decide) ?_
  refine g_sipush F (v := 200) dX9_isPass_2 (by decide +kernel) ?_
  refine g_callS F (kX9_within l _ _ _) (va_cwS 3 F.1.2.2.2.2 gX9_isPass_X9_within rfl rfl rfl (by decide +kernel) ⟨Nat.le_of_ble_eq_true rfl, Nat.le_of_ble_eq_true rfl⟩) rfl rfl rfl (Nat.le_of_ble_eq_true rfl) dX9_isPass_5 ⟨Nat.le_of_ble_eq_true rfl, Nat.le_of_ble_eq_true rfl⟩ (g_det ?_)
  exact K _ _ _ _ dX9_isPass_8 (b2i_nar _) ⟨rfl, rfl⟩

abbrev rmX9_isNotice : Room := { frames := 1, cells := 0, slots := 0, locals := 22 }
theorem iX9_isNotice_9 : ∀ w ∈ u_ws RX9 TX9 15, w ∈ wsX9_isNotice := by decide +kernel
set_option maxHeartbeats 400000 in
set_option maxRecDepth 100000 in
theorem kX9_isNotice (l : Launch) {M : Mm} (x : Int32) : Ct l yX9_isNotice wsX9_isNotice rmX9_isNotice (fun B => [.ref (B + 709), .int x]) M (fun _ v u => v = some (.int (b2i (0 ≤ x ∧ x ≤ M 710 75 - 1))) ∧ u = M) := by
  refine Ct.ofI (own := RX9) (by decide +kernel) rfl rfl (fun B => Nat.le_of_ble_eq_true rfl) ?_
  intro pp ee ss mm aa bb me c9 DD ca B Tl AA QQ F K
  show G pp l ee rmX9_isNotice ss mm aa bb me c9 QQ DD ca B Tl AA 2 0 0 M 0 [(0, .ref (B + 709)), (1, .int x)] []
  refine g_iload_n F dX9_isNotice_0 rfl 1 rfl ?_
  refine g_iconst F (v := 0) dX9_isNotice_1 (by decide) ?_
  refine g_aload_n F dX9_isNotice_2 rfl 0 rfl ?_
  refine gg9_state F iX9_isNotice_9 r709 (by decide +kernel) dX9_isNotice_3 ?_
  refine g_bipush F (v := 75) dX9_isNotice_6 (by decide +kernel) ?_
  refine g_iaload (r := 710) F a710 (75) rfl (by omega) (by decide) dX9_isNotice_8 ?_
  refine g_iconst F (v := 1) dX9_isNotice_9 (by decide) ?_
  refine g_isub F dX9_isNotice_10 ?_
  refine g_callS F (kX9_within l _ _ _) (va_cwS 3 F.1.2.2.2.2 gX9_isNotice_X9_within rfl rfl rfl (by decide +kernel) ⟨Nat.le_of_ble_eq_true rfl, Nat.le_of_ble_eq_true rfl⟩) rfl rfl rfl (Nat.le_of_ble_eq_true rfl) dX9_isNotice_11 ⟨Nat.le_of_ble_eq_true rfl, Nat.le_of_ble_eq_true rfl⟩ (g_det ?_)
  exact K _ _ _ _ dX9_isNotice_14 (b2i_nar _) ⟨rfl, rfl⟩

def fgR (f : Nat → Int32) (n : Nat) : Nat → Int32 := fun j => if 172 ≤ j ∧ j < 172 + n then -1 else f j
theorem fgR_0 (f : Nat → Int32) : fgR f 0 = f := by funext j; exact if_neg (by omega)
theorem fgR_up (f : Nat → Int32) (i : Nat) : upd (fgR f i) (172 + i) (-1) = fgR f (i + 1) := by
  funext j; unfold upd fgR
  by_cases h : j = 172 + i
  · rw [if_pos h, if_pos (by omega)]
  · rw [if_neg h]
    by_cases h2 : 172 ≤ j ∧ j < 172 + i
    · rw [if_pos h2, if_pos (by omega)]
    · rw [if_neg h2, if_neg (by omega)]
def cpW (a b : Nat → Int32) (n : Nat) : Nat → Int32 := fun j => if j < n then b j else a j
theorem cpW_0 (a b : Nat → Int32) : cpW a b 0 = a := by funext j; exact if_neg (by omega)
theorem cpW_up (a b : Nat → Int32) (i : Nat) : upd (cpW a b i) i (b i) = cpW a b (i + 1) := by
  funext j; unfold upd cpW
  by_cases h : j = i
  · subst h; rw [if_pos rfl, if_pos (by omega)]
  · rw [if_neg h]
    by_cases h2 : j < i
    · rw [if_pos h2, if_pos (by omega)]
    · rw [if_neg h2, if_neg (by omega)]

abbrev rmX9_forget : Room := { frames := 0, cells := 0, slots := 0, locals := 0 }
theorem iX9_forget_9 : ∀ w ∈ u_ws RX9 TX9 15, w ∈ wsX9_forget := by decide +kernel
set_option maxHeartbeats 400000 in
set_option maxRecDepth 100000 in
theorem kX9_forget (l : Launch) {M : Mm}  : Ct l yX9_forget wsX9_forget rmX9_forget (fun B => [.ref (B + 709)]) M (fun _ v u => v = none ∧ u = va_up M 710 (fgR (M 710) 768)) := by
  refine Ct.ofV (own := RX9) (by decide +kernel) rfl rfl (fun B => Nat.le_of_ble_eq_true rfl) ?_
  intro pp ee ss mm aa bb me c9 DD ca B Tl AA QQ F K
  show G pp l ee rmX9_forget ss mm aa bb me c9 QQ DD ca B Tl AA 2 0 0 M 0 [(0, .ref (B + 709))] []
  refine g_iconst F (v := 0) dX9_forget_0 (by decide) ?_
  refine g_istore_n F (lv2 := [(1, _), (0, _)]) dX9_forget_1 rfl (by decide) rfl ?_
  have LP : ∀ (ni i : Nat), i + ni = 768 → G pp l ee rmX9_forget ss mm aa bb me c9 QQ DD ca B Tl AA 2 0 0 (va_up M 710 (fgR (M 710) i)) 2 [(1, .int (nI i)), (0, .ref (B + 709))] [] := by
    intro ni
    induction ni with
    | zero =>
      intro i hni
      refine g_iload_n F dX9_forget_2 rfl 0 rfl ?_
      refine g_sipush F (v := 768) dX9_forget_3 (by decide +kernel) ?_
      refine g_icmpN_ge F 26 dX9_forget_6 (by decide) (i) (768) rfl rfl (by omega) (by omega) (fun hci => ?_) (fun hci => ?_)
      · obtain rfl : i = 768 := by omega
        exact K _ _ _ dX9_forget_26 ⟨rfl, rfl⟩
      · exact absurd hci (by omega)
    | succ ni ihi =>
      intro i hni
      refine g_iload_n F dX9_forget_2 rfl 0 rfl ?_
      refine g_sipush F (v := 768) dX9_forget_3 (by decide +kernel) ?_
      refine g_icmpN_ge F 26 dX9_forget_6 (by decide) (i) (768) rfl rfl (by omega) (by omega) (fun hci => ?_) (fun hci => ?_)
      · exact absurd hci (by omega)
      · refine g_aload_n F dX9_forget_9 rfl 1 rfl ?_
        refine gg9_state F iX9_forget_9 r709 (by decide +kernel) dX9_forget_10 ?_
        refine g_sipush F (v := 172) dX9_forget_13 (by decide +kernel) ?_
        refine g_iload_n F dX9_forget_16 rfl 0 rfl ?_
        refine g_iadd F dX9_forget_17 ?_
        refine g_top (nI_add (172) (i)) ?_
        refine g_iconst F (v := -1) dX9_forget_18 (by decide) ?_
        refine g_iastore (r := 710) F a710 ((172 + i)) rfl (by omega) (by decide) dX9_forget_19 ?_
        refine g_iinc F (lv2 := [(1, _), (0, _)]) dX9_forget_20 0 rfl (nI_1 _) (by decide) rfl ?_
        refine g_goto F 2 dX9_forget_23 (by decide) ?_
        refine g_lv (lv2 := [(1, _), (0, _)]) [0, 1] rfl ?_
        exact g_is (by rw [bx_uu, va_up_self, fgR_up]) rfl (ihi (i + 1) (by omega))
  refine g_lv (lv2 := [(1, _), (0, _)]) [0, 1] rfl ?_
  exact g_is (by rw [fgR_0, up_id]) rfl (LP (768 - 0) (0) (by omega))

abbrev rmX9_putAside : Room := { frames := 0, cells := 0, slots := 0, locals := 0 }
theorem iX9_putAside_9 : ∀ w ∈ u_ws RX9 TX9 15, w ∈ wsX9_putAside := by decide +kernel
set_option maxHeartbeats 400000 in
set_option maxRecDepth 100000 in
theorem kX9_putAside (l : Launch) {M : Mm}  : Ct l yX9_putAside wsX9_putAside rmX9_putAside (fun B => [.ref (B + 709)]) M (fun _ v u => v = none ∧ u = va_up M 714 (cpW (M 714) (M 710) 1804)) := by
  refine Ct.ofV (own := RX9) (by decide +kernel) rfl rfl (fun B => Nat.le_of_ble_eq_true rfl) ?_
  intro pp ee ss mm aa bb me c9 DD ca B Tl AA QQ F K
  show G pp l ee rmX9_putAside ss mm aa bb me c9 QQ DD ca B Tl AA 2 0 0 M 0 [(0, .ref (B + 709))] []
  refine g_iconst F (v := 0) dX9_putAside_0 (by decide) ?_
  refine g_istore_n F (lv2 := [(1, _), (0, _)]) dX9_putAside_1 rfl (by decide) rfl ?_
  have LP : ∀ (ni i : Nat), i + ni = 1804 → G pp l ee rmX9_putAside ss mm aa bb me c9 QQ DD ca B Tl AA 2 0 0 (va_up M 714 (cpW (M 714) (M 710) i)) 2 [(1, .int (nI i)), (0, .ref (B + 709))] [] := by
    intro ni
    induction ni with
    | zero =>
      intro i hni
      refine g_iload_n F dX9_putAside_2 rfl 0 rfl ?_
      refine g_sipush F (v := 1804) dX9_putAside_3 (by decide +kernel) ?_
      refine g_icmpN_ge F 27 dX9_putAside_6 (by decide) (i) (1804) rfl rfl (by omega) (by omega) (fun hci => ?_) (fun hci => ?_)
      · obtain rfl : i = 1804 := by omega
        exact K _ _ _ dX9_putAside_27 ⟨rfl, rfl⟩
      · exact absurd hci (by omega)
    | succ ni ihi =>
      intro i hni
      refine g_iload_n F dX9_putAside_2 rfl 0 rfl ?_
      refine g_sipush F (v := 1804) dX9_putAside_3 (by decide +kernel) ?_
      refine g_icmpN_ge F 27 dX9_putAside_6 (by decide) (i) (1804) rfl rfl (by omega) (by omega) (fun hci => ?_) (fun hci => ?_)
      · exact absurd hci (by omega)
      · refine g_aload_n F dX9_putAside_9 rfl 1 rfl ?_
        refine gg9_kept F iX9_putAside_9 r709 (by decide +kernel) dX9_putAside_10 ?_
        refine g_iload_n F dX9_putAside_13 rfl 0 rfl ?_
        refine g_aload_n F dX9_putAside_14 rfl 1 rfl ?_
        refine gg9_state F iX9_putAside_9 r709 (by decide +kernel) dX9_putAside_15 ?_
        refine g_iload_n F dX9_putAside_18 rfl 0 rfl ?_
        refine g_iaload (r := 710) F a710 (i) rfl (by omega) (by decide) dX9_putAside_19 ?_
        refine g_iastore (r := 714) F a714 (i) rfl (by omega) (by decide) dX9_putAside_20 ?_
        refine g_iinc F (lv2 := [(1, _), (0, _)]) dX9_putAside_21 0 rfl (nI_1 _) (by decide) rfl ?_
        refine g_goto F 2 dX9_putAside_24 (by decide) ?_
        refine g_lv (lv2 := [(1, _), (0, _)]) [0, 1] rfl ?_
        exact g_is (by rw [bx_uu, va_up_self, va_up_ne _ _ (show 710 ≠ 714 by decide), cpW_up]) rfl (ihi (i + 1) (by omega))
  refine g_lv (lv2 := [(1, _), (0, _)]) [0, 1] rfl ?_
  exact g_is (by rw [cpW_0, up_id]) rfl (LP (1804 - 0) (0) (by omega))

abbrev rmX9_putBack : Room := { frames := 0, cells := 0, slots := 0, locals := 0 }
theorem iX9_putBack_9 : ∀ w ∈ u_ws RX9 TX9 15, w ∈ wsX9_putBack := by decide +kernel
set_option maxHeartbeats 400000 in
set_option maxRecDepth 100000 in
theorem kX9_putBack (l : Launch) {M : Mm}  : Ct l yX9_putBack wsX9_putBack rmX9_putBack (fun B => [.ref (B + 709)]) M (fun _ v u => v = none ∧ u = va_up M 710 (cpW (M 710) (M 714) 1804)) := by
  refine Ct.ofV (own := RX9) (by decide +kernel) rfl rfl (fun B => Nat.le_of_ble_eq_true rfl) ?_
  intro pp ee ss mm aa bb me c9 DD ca B Tl AA QQ F K
  show G pp l ee rmX9_putBack ss mm aa bb me c9 QQ DD ca B Tl AA 2 0 0 M 0 [(0, .ref (B + 709))] []
  refine g_iconst F (v := 0) dX9_putBack_0 (by decide) ?_
  refine g_istore_n F (lv2 := [(1, _), (0, _)]) dX9_putBack_1 rfl (by decide) rfl ?_
  have LP : ∀ (ni i : Nat), i + ni = 1804 → G pp l ee rmX9_putBack ss mm aa bb me c9 QQ DD ca B Tl AA 2 0 0 (va_up M 710 (cpW (M 710) (M 714) i)) 2 [(1, .int (nI i)), (0, .ref (B + 709))] [] := by
    intro ni
    induction ni with
    | zero =>
      intro i hni
      refine g_iload_n F dX9_putBack_2 rfl 0 rfl ?_
      refine g_sipush F (v := 1804) dX9_putBack_3 (by decide +kernel) ?_
      refine g_icmpN_ge F 27 dX9_putBack_6 (by decide) (i) (1804) rfl rfl (by omega) (by omega) (fun hci => ?_) (fun hci => ?_)
      · obtain rfl : i = 1804 := by omega
        exact K _ _ _ dX9_putBack_27 ⟨rfl, rfl⟩
      · exact absurd hci (by omega)
    | succ ni ihi =>
      intro i hni
      refine g_iload_n F dX9_putBack_2 rfl 0 rfl ?_
      refine g_sipush F (v := 1804) dX9_putBack_3 (by decide +kernel) ?_
      refine g_icmpN_ge F 27 dX9_putBack_6 (by decide) (i) (1804) rfl rfl (by omega) (by omega) (fun hci => ?_) (fun hci => ?_)
      · exact absurd hci (by omega)
      · refine g_aload_n F dX9_putBack_9 rfl 1 rfl ?_
        refine gg9_state F iX9_putBack_9 r709 (by decide +kernel) dX9_putBack_10 ?_
        refine g_iload_n F dX9_putBack_13 rfl 0 rfl ?_
        refine g_aload_n F dX9_putBack_14 rfl 1 rfl ?_
        refine gg9_kept F iX9_putBack_9 r709 (by decide +kernel) dX9_putBack_15 ?_
        refine g_iload_n F dX9_putBack_18 rfl 0 rfl ?_
        refine g_iaload (r := 714) F a714 (i) rfl (by omega) (by decide) dX9_putBack_19 ?_
        refine g_iastore (r := 710) F a710 (i) rfl (by omega) (by decide) dX9_putBack_20 ?_
        refine g_iinc F (lv2 := [(1, _), (0, _)]) dX9_putBack_21 0 rfl (nI_1 _) (by decide) rfl ?_
        refine g_goto F 2 dX9_putBack_24 (by decide) ?_
        refine g_lv (lv2 := [(1, _), (0, _)]) [0, 1] rfl ?_
        exact g_is (by rw [bx_uu, va_up_self, va_up_ne _ _ (show 714 ≠ 710 by decide), cpW_up]) rfl (ihi (i + 1) (by omega))
  refine g_lv (lv2 := [(1, _), (0, _)]) [0, 1] rfl ?_
  exact g_is (by rw [cpW_0, up_id]) rfl (LP (1804 - 0) (0) (by omega))

def staR (f : Nat → Int32) : Nat → Int32
  | 0 => 0
  | i + 1 => staR f i + (if f (132 + i) < 2 then 1 else 0)
/-- the reference's shade -/
def shr0 (f : Nat → Int32) (c : Nat) (x : Int32) : Int32 := (f (0 + c) + 1) / 2 + f (8 + c) - (x - f (24 + c) - (x - f (24 + c)) / f (16 + c) * f (16 + c))
def shR (f : Nat → Int32) (c : Nat) (x : Int32) : Int32 := if x - f (24 + c) < 0 then 0 else if shr0 f c x < 0 then 0 else if 5 < shr0 f c x then 5 else shr0 f c x
def tldR (f : Nat → Int32) (k : Nat) (s : Int32) : Int32 := s + f (56 + k) - (if f (59 + k) < 12 then 0 else 1)
def rdgR (f : Nat → Int32) (t k c : Nat) : Int32 := if 2 < f (32 + t / 4) ∧ shR f c (f 74) < 3 then 0 else if tldR f k (shR f c (f 74)) < 0 then 0 else if 5 < tldR f k (shR f c (f 74)) then 5 else tldR f k (shR f c (f 74))

abbrev rmX9_standing : Room := { frames := 0, cells := 0, slots := 0, locals := 0 }
theorem iX9_standing_9 : ∀ w ∈ u_ws RX9 TX9 15, w ∈ wsX9_standing := by decide +kernel
set_option maxHeartbeats 400000 in
set_option maxRecDepth 100000 in
theorem kX9_standing (l : Launch) {M : Mm} (n : Nat) (hn : M 710 75 = nI n) (hn20 : n ≤ 20) : Ct l yX9_standing wsX9_standing rmX9_standing (fun B => [.ref (B + 709)]) M (fun _ v u => v = some (.int (staR (M 710) n)) ∧ u = M) := by
  refine Ct.ofI (own := RX9) (by decide +kernel) rfl rfl (fun B => Nat.le_of_ble_eq_true rfl) ?_
  intro pp ee ss mm aa bb me c9 DD ca B Tl AA QQ F K
  show G pp l ee rmX9_standing ss mm aa bb me c9 QQ DD ca B Tl AA 3 0 0 M 0 [(0, .ref (B + 709))] []
  refine g_iconst F (v := 0) dX9_standing_0 (by decide) ?_
  refine g_istore_n F (lv2 := [(1, _), (0, _)]) dX9_standing_1 rfl (by decide) rfl ?_
  refine g_iconst F (v := 0) dX9_standing_2 (by decide) ?_
  refine g_istore_n F (lv2 := [(2, _), (1, _), (0, _)]) dX9_standing_3 rfl (by decide) rfl ?_
  have LP : ∀ (ni i : Nat), i + ni = n → G pp l ee rmX9_standing ss mm aa bb me c9 QQ DD ca B Tl AA 3 0 0 (M) 4 [(2, .int (nI i)), (0, .ref (B + 709)), (1, .int (staR (M 710) i))] [] := by
    intro ni
    induction ni with
    | zero =>
      intro i hni
      refine g_iload_n F dX9_standing_4 rfl 0 rfl ?_
      refine g_aload_n F dX9_standing_5 rfl 1 rfl ?_
      refine gg9_state F iX9_standing_9 r709 (by decide +kernel) dX9_standing_6 ?_
      refine g_bipush F (v := 75) dX9_standing_9 (by decide +kernel) ?_
      refine g_iaload (r := 710) F a710 (75) rfl (by omega) (by decide) dX9_standing_11 ?_
      refine g_top hn ?_
      refine g_icmpN_ge F 43 dX9_standing_12 (by decide) (i) (n) rfl rfl (by omega) (by omega) (fun hci => ?_) (fun hci => ?_)
      · obtain rfl : i = n := by omega
        refine g_iload_n F dX9_standing_43 rfl 2 rfl ?_
        exact K _ _ _ _ dX9_standing_44 rfl ⟨rfl, rfl⟩
      · exact absurd hci (by omega)
    | succ ni ihi =>
      intro i hni
      refine g_iload_n F dX9_standing_4 rfl 0 rfl ?_
      refine g_aload_n F dX9_standing_5 rfl 1 rfl ?_
      refine gg9_state F iX9_standing_9 r709 (by decide +kernel) dX9_standing_6 ?_
      refine g_bipush F (v := 75) dX9_standing_9 (by decide +kernel) ?_
      refine g_iaload (r := 710) F a710 (75) rfl (by omega) (by decide) dX9_standing_11 ?_
      refine g_top hn ?_
      refine g_icmpN_ge F 43 dX9_standing_12 (by decide) (i) (n) rfl rfl (by omega) (by omega) (fun hci => ?_) (fun hci => ?_)
      · exact absurd hci (by omega)
      · refine g_iload_n F dX9_standing_15 rfl 2 rfl ?_
        refine g_aload_n F dX9_standing_16 rfl 1 rfl ?_
        refine gg9_state F iX9_standing_9 r709 (by decide +kernel) dX9_standing_17 ?_
        refine g_sipush F (v := 132) dX9_standing_20 (by decide +kernel) ?_
        refine g_iload_n F dX9_standing_23 rfl 0 rfl ?_
        refine g_iadd F dX9_standing_24 ?_
        refine g_top (nI_add (132) (i)) ?_
        refine g_iaload (r := 710) F a710 ((132 + i)) rfl (by omega) (by decide) dX9_standing_25 ?_
        refine g_iconst F (v := 2) dX9_standing_26 (by decide) ?_
        refine g_icmp_ge F 34 dX9_standing_27 (by decide) (fun h2 => ?_) (fun h2 => ?_)
        · refine g_iconst F (v := 0) dX9_standing_34 (by decide) ?_
          refine g_iadd F dX9_standing_35 ?_
          refine g_istore_n F (lv2 := [(1, _), (2, _), (0, _)]) dX9_standing_36 rfl (by decide) rfl ?_
          refine g_iinc F (lv2 := [(2, _), (1, _), (0, _)]) dX9_standing_37 1 rfl (nI_1 _) (by decide) rfl ?_
          refine g_goto F 4 dX9_standing_40 (by decide) ?_
          refine g_lv (lv2 := [(2, _), (0, _), (1, _)]) [0, 2, 1] rfl ?_
          exact g_is rfl (by first | (rw [staR, if_pos (Int32.not_le.mp h2)]; done) | (rw [staR, if_neg (Int32.not_lt.mpr h2)]; done)) (ihi (i + 1) (by omega))
        · refine g_iconst F (v := 1) dX9_standing_30 (by decide) ?_
          refine g_goto F 35 dX9_standing_31 (by decide) ?_
          refine g_iadd F dX9_standing_35 ?_
          refine g_istore_n F (lv2 := [(1, _), (2, _), (0, _)]) dX9_standing_36 rfl (by decide) rfl ?_
          refine g_iinc F (lv2 := [(2, _), (1, _), (0, _)]) dX9_standing_37 1 rfl (nI_1 _) (by decide) rfl ?_
          refine g_goto F 4 dX9_standing_40 (by decide) ?_
          refine g_lv (lv2 := [(2, _), (0, _), (1, _)]) [0, 2, 1] rfl ?_
          exact g_is rfl (by first | (rw [staR, if_pos (Int32.not_le.mp h2)]; done) | (rw [staR, if_neg (Int32.not_lt.mpr h2)]; done)) (ihi (i + 1) (by omega))
  refine g_lv (lv2 := [(2, _), (0, _), (1, _)]) [0, 2, 1] rfl ?_
  exact g_is rfl rfl (LP (n - 0) (0) (by omega))

abbrev rmX9_shade : Room := { frames := 0, cells := 0, slots := 0, locals := 0 }
theorem iX9_shade_9 : ∀ w ∈ u_ws RX9 TX9 15, w ∈ wsX9_shade := by decide +kernel
set_option maxHeartbeats 400000 in
set_option maxRecDepth 100000 in
theorem kX9_shade (l : Launch) {M : Mm} {c : Nat} (hc : c < 8) (hne : ¬ M 710 (16 + c) = 0) (x : Int32) : Ct l yX9_shade wsX9_shade rmX9_shade (fun B => [.ref (B + 709), .int (nI c), .int x]) M (fun _ v u => v = some (.int (shR (M 710) c x)) ∧ u = M) := by
  refine Ct.ofI (own := RX9) (by decide +kernel) rfl rfl (fun B => Nat.le_of_ble_eq_true rfl) ?_
  intro pp ee ss mm aa bb me c9 DD ca B Tl AA QQ F K
  show G pp l ee rmX9_shade ss mm aa bb me c9 QQ DD ca B Tl AA 5 0 0 M 0 [(0, .ref (B + 709)), (1, .int (nI c)), (2, .int x)] []
  refine g_iload_n F dX9_shade_0 rfl 2 rfl ?_
  refine g_aload_n F dX9_shade_1 rfl 0 rfl ?_
  refine gg9_state F iX9_shade_9 r709 (by decide +kernel) dX9_shade_2 ?_
  refine g_bipush F (v := 24) dX9_shade_5 (by decide +kernel) ?_
  refine g_iload_n F dX9_shade_7 rfl 1 rfl ?_
  refine g_iadd F dX9_shade_8 ?_
  refine g_top (nI_add (24) (c)) ?_
  refine g_iaload (r := 710) F a710 ((24 + c)) rfl (by omega) (by decide) dX9_shade_9 ?_
  refine g_isub F dX9_shade_10 ?_
  refine g_istore_n F (lv2 := [(3, _), (0, _), (1, _), (2, _)]) dX9_shade_11 rfl (by decide) rfl ?_
  refine g_aload_n F dX9_shade_12 rfl 1 rfl ?_
  refine gg9_state F iX9_shade_9 r709 (by decide +kernel) dX9_shade_13 ?_
  refine g_iconst F (v := 0) dX9_shade_16 (by decide) ?_
  refine g_iload_n F dX9_shade_17 rfl 2 rfl ?_
  refine g_iadd F dX9_shade_18 ?_
  refine g_top (nI_add (0) (c)) ?_
  refine g_iaload (r := 710) F a710 ((0 + c)) rfl (by omega) (by decide) dX9_shade_19 ?_
  refine g_iconst F (v := 1) dX9_shade_20 (by decide) ?_
  refine g_iadd F dX9_shade_21 ?_
  refine g_iconst F (v := 2) dX9_shade_22 (by decide) ?_
  refine g_idiv F dX9_shade_23 (by decide) ?_
  refine g_aload_n F dX9_shade_24 rfl 1 rfl ?_
  refine gg9_state F iX9_shade_9 r709 (by decide +kernel) dX9_shade_25 ?_
  refine g_bipush F (v := 8) dX9_shade_28 (by decide +kernel) ?_
  refine g_iload_n F dX9_shade_30 rfl 2 rfl ?_
  refine g_iadd F dX9_shade_31 ?_
  refine g_top (nI_add (8) (c)) ?_
  refine g_iaload (r := 710) F a710 ((8 + c)) rfl (by omega) (by decide) dX9_shade_32 ?_
  refine g_iadd F dX9_shade_33 ?_
  refine g_iload_n F dX9_shade_34 rfl 0 rfl ?_
  refine g_aload_n F dX9_shade_35 rfl 1 rfl ?_
  refine gg9_state F iX9_shade_9 r709 (by decide +kernel) dX9_shade_36 ?_
  refine g_bipush F (v := 16) dX9_shade_39 (by decide +kernel) ?_
  refine g_iload_n F dX9_shade_41 rfl 2 rfl ?_
  refine g_iadd F dX9_shade_42 ?_
  refine g_top (nI_add (16) (c)) ?_
  refine g_iaload (r := 710) F a710 ((16 + c)) rfl (by omega) (by decide) dX9_shade_43 ?_
  refine g_irem F dX9_shade_44 hne ?_
  refine g_isub F dX9_shade_45 ?_
  refine g_istore F (lv2 := [(4, _), (3, _), (0, _), (1, _), (2, _)]) dX9_shade_46 (by decide) rfl ?_
  refine g_iload_n F dX9_shade_48 rfl 1 rfl ?_
  refine g_if_lt F 57 dX9_shade_49 (by decide) (fun h1 => ?_) (fun h1 => ?_)
  · refine g_iconst F (v := 0) dX9_shade_57 (by decide) ?_
    refine g_goto F 73 dX9_shade_58 (by decide) ?_
    exact K _ _ _ _ dX9_shade_73 rfl ⟨by first | (rw [shR, if_pos h1]; done) | (rw [shR, if_neg h1, if_pos (show shr0 (M 710) c x < 0 from Int32.not_le.mp h2)]; done) | (rw [shR, if_neg h1, if_neg (show ¬ shr0 (M 710) c x < 0 from Int32.not_lt.mpr h2), if_pos (show 5 < shr0 (M 710) c x from Int32.not_le.mp h3)]; done) | (rw [shR, if_neg h1, if_neg (show ¬ shr0 (M 710) c x < 0 from Int32.not_lt.mpr h2), if_neg (show ¬ 5 < shr0 (M 710) c x from Int32.not_lt.mpr h3)]; rfl), rfl⟩
  · refine g_iload F dX9_shade_52 0 rfl ?_
    refine g_if_ge F 61 dX9_shade_54 (by decide) (fun h2 => ?_) (fun h2 => ?_)
    · refine g_iload F dX9_shade_61 0 rfl ?_
      refine g_iconst F (v := 5) dX9_shade_63 (by decide) ?_
      refine g_icmp_le F 71 dX9_shade_64 (by decide) (fun h3 => ?_) (fun h3 => ?_)
      · refine g_iload F dX9_shade_71 0 rfl ?_
        exact K _ _ _ _ dX9_shade_73 rfl ⟨by first | (rw [shR, if_pos h1]; done) | (rw [shR, if_neg h1, if_pos (show shr0 (M 710) c x < 0 from Int32.not_le.mp h2)]; done) | (rw [shR, if_neg h1, if_neg (show ¬ shr0 (M 710) c x < 0 from Int32.not_lt.mpr h2), if_pos (show 5 < shr0 (M 710) c x from Int32.not_le.mp h3)]; done) | (rw [shR, if_neg h1, if_neg (show ¬ shr0 (M 710) c x < 0 from Int32.not_lt.mpr h2), if_neg (show ¬ 5 < shr0 (M 710) c x from Int32.not_lt.mpr h3)]; rfl), rfl⟩
      · refine g_iconst F (v := 5) dX9_shade_67 (by decide) ?_
        refine g_goto F 73 dX9_shade_68 (by decide) ?_
        exact K _ _ _ _ dX9_shade_73 rfl ⟨by first | (rw [shR, if_pos h1]; done) | (rw [shR, if_neg h1, if_pos (show shr0 (M 710) c x < 0 from Int32.not_le.mp h2)]; done) | (rw [shR, if_neg h1, if_neg (show ¬ shr0 (M 710) c x < 0 from Int32.not_lt.mpr h2), if_pos (show 5 < shr0 (M 710) c x from Int32.not_le.mp h3)]; done) | (rw [shR, if_neg h1, if_neg (show ¬ shr0 (M 710) c x < 0 from Int32.not_lt.mpr h2), if_neg (show ¬ 5 < shr0 (M 710) c x from Int32.not_lt.mpr h3)]; rfl), rfl⟩
    · refine g_iconst F (v := 0) dX9_shade_57 (by decide) ?_
      refine g_goto F 73 dX9_shade_58 (by decide) ?_
      exact K _ _ _ _ dX9_shade_73 rfl ⟨by first | (rw [shR, if_pos h1]; done) | (rw [shR, if_neg h1, if_pos (show shr0 (M 710) c x < 0 from Int32.not_le.mp h2)]; done) | (rw [shR, if_neg h1, if_neg (show ¬ shr0 (M 710) c x < 0 from Int32.not_lt.mpr h2), if_pos (show 5 < shr0 (M 710) c x from Int32.not_le.mp h3)]; done) | (rw [shR, if_neg h1, if_neg (show ¬ shr0 (M 710) c x < 0 from Int32.not_lt.mpr h2), if_neg (show ¬ 5 < shr0 (M 710) c x from Int32.not_lt.mpr h3)]; rfl), rfl⟩

abbrev rmX9_greyIn : Room := { frames := 0, cells := 0, slots := 0, locals := 0 }
theorem iX9_greyIn_9 : ∀ w ∈ u_ws RX9 TX9 15, w ∈ wsX9_greyIn := by decide +kernel
set_option maxHeartbeats 400000 in
set_option maxRecDepth 100000 in
theorem kX9_greyIn (l : Launch) {M : Mm} {t : Nat} (ht : t < 96) : Ct l yX9_greyIn wsX9_greyIn rmX9_greyIn (fun B => [.ref (B + 709), .int (nI t)]) M (fun _ v u => v = some (.int (M 710 (32 + t / 4))) ∧ u = M) := by
  refine Ct.ofI (own := RX9) (by decide +kernel) rfl rfl (fun B => Nat.le_of_ble_eq_true rfl) ?_
  intro pp ee ss mm aa bb me c9 DD ca B Tl AA QQ F K
  show G pp l ee rmX9_greyIn ss mm aa bb me c9 QQ DD ca B Tl AA 2 0 0 M 0 [(0, .ref (B + 709)), (1, .int (nI t))] []
  refine g_aload_n F dX9_greyIn_0 rfl 0 rfl ?_
  refine gg9_state F iX9_greyIn_9 r709 (by decide +kernel) dX9_greyIn_1 ?_
  refine g_bipush F (v := 32) dX9_greyIn_4 (by decide +kernel) ?_
  refine g_iload_n F dX9_greyIn_6 rfl 1 rfl ?_
  refine g_iconst F (v := 4) dX9_greyIn_7 (by decide) ?_
  refine g_idiv F dX9_greyIn_8 (by decide) ?_
  refine g_top (pk_div (a := t) (d := 4) (by omega) (by omega) (by omega)) ?_
  refine g_iadd F dX9_greyIn_9 ?_
  refine g_top (nI_add (32) ((t / 4))) ?_
  refine g_iaload (r := 710) F a710 ((32 + (t / 4))) rfl (by omega) (by decide) dX9_greyIn_10 ?_
  exact K _ _ _ _ dX9_greyIn_11 rfl ⟨rfl, rfl⟩

abbrev rmX9_reads : Room := { frames := 1, cells := 0, slots := 0, locals := 24 }
theorem iX9_reads_9 : ∀ w ∈ u_ws RX9 TX9 15, w ∈ wsX9_reads := by decide +kernel
set_option maxHeartbeats 400000 in
set_option maxRecDepth 100000 in
theorem kX9_reads (l : Launch) {M : Mm} {t k c : Nat} (hk : k < 3) (hc : c < 8) (ht : t < 96) (h9t : M 710 74 = nI t) (hne : ¬ M 710 (16 + c) = 0) : Ct l yX9_reads wsX9_reads rmX9_reads (fun B => [.ref (B + 709), .int (nI k), .int (nI c)]) M (fun _ v u => v = some (.int (rdgR (M 710) t k c)) ∧ u = M) := by
  refine Ct.ofI (own := RX9) (by decide +kernel) rfl rfl (fun B => Nat.le_of_ble_eq_true rfl) ?_
  intro pp ee ss mm aa bb me c9 DD ca B Tl AA QQ F K
  show G pp l ee rmX9_reads ss mm aa bb me c9 QQ DD ca B Tl AA 5 0 0 M 0 [(0, .ref (B + 709)), (1, .int (nI k)), (2, .int (nI c))] []
  refine g_aload_n F dX9_reads_0 rfl 0 rfl ?_
  refine g_iload_n F dX9_reads_1 rfl 2 rfl ?_
  refine g_aload_n F dX9_reads_2 rfl 0 rfl ?_
  refine gg9_state F iX9_reads_9 r709 (by decide +kernel) dX9_reads_3 ?_
  refine g_bipush F (v := 74) dX9_reads_6 (by decide +kernel) ?_
  refine g_iaload (r := 710) F a710 (74) rfl (by omega) (by decide) dX9_reads_8 ?_
  refine g_callV F (kX9_shade l (c := c) (by omega) (by assumption) _) (cwV 2 F.1.2.2.2.2 gX9_reads_X9_shade rfl rfl rfl (by decide +kernel) ⟨Nat.le_of_ble_eq_true rfl, Nat.le_of_ble_eq_true rfl⟩) r709 (by decide) rfl rfl rfl rfl (Nat.le_of_ble_eq_true rfl) dX9_reads_9 ⟨Nat.le_of_ble_eq_true rfl, Nat.le_of_ble_eq_true rfl⟩ (g_det ?_)
  refine g_istore_n F (lv2 := [(3, _), (0, _), (1, _), (2, _)]) dX9_reads_12 rfl (by decide) rfl ?_
  refine g_aload_n F dX9_reads_13 rfl 1 rfl ?_
  refine g_aload_n F dX9_reads_14 rfl 1 rfl ?_
  refine gg9_state F iX9_reads_9 r709 (by decide +kernel) dX9_reads_15 ?_
  refine g_bipush F (v := 74) dX9_reads_18 (by decide +kernel) ?_
  refine g_iaload (r := 710) F a710 (74) rfl (by omega) (by decide) dX9_reads_20 ?_
  refine g_top h9t ?_
  refine g_callV F (kX9_greyIn l (t := t) (by omega)) (cwV 1 F.1.2.2.2.2 gX9_reads_X9_greyIn rfl rfl rfl (by decide +kernel) ⟨Nat.le_of_ble_eq_true rfl, Nat.le_of_ble_eq_true rfl⟩) r709 (by decide) rfl rfl rfl rfl (Nat.le_of_ble_eq_true rfl) dX9_reads_21 ⟨Nat.le_of_ble_eq_true rfl, Nat.le_of_ble_eq_true rfl⟩ (g_det ?_)
  refine g_iconst F (v := 2) dX9_reads_24 (by decide) ?_
  refine g_icmp_le F 35 dX9_reads_25 (by decide) (fun h1 => ?_) (fun h1 => ?_)
  · refine g_iload_n F dX9_reads_35 rfl 0 rfl ?_
    refine g_aload_n F dX9_reads_36 rfl 1 rfl ?_
    refine gg9_state F iX9_reads_9 r709 (by decide +kernel) dX9_reads_37 ?_
    refine g_bipush F (v := 56) dX9_reads_40 (by decide +kernel) ?_
    refine g_iload_n F dX9_reads_42 rfl 2 rfl ?_
    refine g_iadd F dX9_reads_43 ?_
    refine g_top (nI_add (56) (k)) ?_
    refine g_iaload (r := 710) F a710 ((56 + k)) rfl (by omega) (by decide) dX9_reads_44 ?_
    refine g_iadd F dX9_reads_45 ?_
    refine g_aload_n F dX9_reads_46 rfl 1 rfl ?_
    refine gg9_state F iX9_reads_9 r709 (by decide +kernel) dX9_reads_47 ?_
    refine g_bipush F (v := 59) dX9_reads_50 (by decide +kernel) ?_
    refine g_iload_n F dX9_reads_52 rfl 2 rfl ?_
    refine g_iadd F dX9_reads_53 ?_
    refine g_top (nI_add (59) (k)) ?_
    refine g_iaload (r := 710) F a710 ((59 + k)) rfl (by omega) (by decide) dX9_reads_54 ?_
    refine g_bipush F (v := 12) dX9_reads_55 (by decide +kernel) ?_
    refine g_icmp_ge F 64 dX9_reads_57 (by decide) (fun h3 => ?_) (fun h3 => ?_)
    · refine g_iconst F (v := 1) dX9_reads_64 (by decide) ?_
      refine g_isub F dX9_reads_65 ?_
      refine g_top (y := tldR (M 710) k (shR (M 710) c (M 710 74))) (by unfold tldR; first | (rw [if_neg (Int32.not_lt.mpr h3)]; done) | (rw [if_pos (Int32.not_le.mp h3)]; done)) ?_
      refine g_istore F (lv2 := [(4, _), (3, _), (0, _), (1, _), (2, _)]) dX9_reads_66 (by decide) rfl ?_
      refine g_iload F dX9_reads_68 0 rfl ?_
      refine g_if_ge F 77 dX9_reads_70 (by decide) (fun h4 => ?_) (fun h4 => ?_)
      · refine g_iload F dX9_reads_77 0 rfl ?_
        refine g_iconst F (v := 5) dX9_reads_79 (by decide) ?_
        refine g_icmp_le F 87 dX9_reads_80 (by decide) (fun h5 => ?_) (fun h5 => ?_)
        · refine g_iload F dX9_reads_87 0 rfl ?_
          exact K _ _ _ _ dX9_reads_89 rfl ⟨by first | (rw [rdgR, if_pos (And.intro (Int32.not_le.mp h1) (Int32.not_le.mp h2))]; done) | ((first | rw [rdgR, if_neg (fun z => Int32.not_lt.mpr h1 z.1)] | rw [rdgR, if_neg (fun z => Int32.not_lt.mpr h2 z.2)]); (first | (rw [if_pos (Int32.not_le.mp h4)]; done) | (rw [if_neg (Int32.not_lt.mpr h4), if_pos (Int32.not_le.mp h5)]; done) | (rw [if_neg (Int32.not_lt.mpr h4), if_neg (Int32.not_lt.mpr h5)]; done))), rfl⟩
        · refine g_iconst F (v := 5) dX9_reads_83 (by decide) ?_
          refine g_goto F 89 dX9_reads_84 (by decide) ?_
          exact K _ _ _ _ dX9_reads_89 rfl ⟨by first | (rw [rdgR, if_pos (And.intro (Int32.not_le.mp h1) (Int32.not_le.mp h2))]; done) | ((first | rw [rdgR, if_neg (fun z => Int32.not_lt.mpr h1 z.1)] | rw [rdgR, if_neg (fun z => Int32.not_lt.mpr h2 z.2)]); (first | (rw [if_pos (Int32.not_le.mp h4)]; done) | (rw [if_neg (Int32.not_lt.mpr h4), if_pos (Int32.not_le.mp h5)]; done) | (rw [if_neg (Int32.not_lt.mpr h4), if_neg (Int32.not_lt.mpr h5)]; done))), rfl⟩
      · refine g_iconst F (v := 0) dX9_reads_73 (by decide) ?_
        refine g_goto F 89 dX9_reads_74 (by decide) ?_
        exact K _ _ _ _ dX9_reads_89 rfl ⟨by first | (rw [rdgR, if_pos (And.intro (Int32.not_le.mp h1) (Int32.not_le.mp h2))]; done) | ((first | rw [rdgR, if_neg (fun z => Int32.not_lt.mpr h1 z.1)] | rw [rdgR, if_neg (fun z => Int32.not_lt.mpr h2 z.2)]); (first | (rw [if_pos (Int32.not_le.mp h4)]; done) | (rw [if_neg (Int32.not_lt.mpr h4), if_pos (Int32.not_le.mp h5)]; done) | (rw [if_neg (Int32.not_lt.mpr h4), if_neg (Int32.not_lt.mpr h5)]; done))), rfl⟩
    · refine g_iconst F (v := 0) dX9_reads_60 (by decide) ?_
      refine g_goto F 65 dX9_reads_61 (by decide) ?_
      refine g_isub F dX9_reads_65 ?_
      refine g_top (y := tldR (M 710) k (shR (M 710) c (M 710 74))) (by unfold tldR; first | (rw [if_neg (Int32.not_lt.mpr h3)]; done) | (rw [if_pos (Int32.not_le.mp h3)]; done)) ?_
      refine g_istore F (lv2 := [(4, _), (3, _), (0, _), (1, _), (2, _)]) dX9_reads_66 (by decide) rfl ?_
      refine g_iload F dX9_reads_68 0 rfl ?_
      refine g_if_ge F 77 dX9_reads_70 (by decide) (fun h4 => ?_) (fun h4 => ?_)
      · refine g_iload F dX9_reads_77 0 rfl ?_
        refine g_iconst F (v := 5) dX9_reads_79 (by decide) ?_
        refine g_icmp_le F 87 dX9_reads_80 (by decide) (fun h5 => ?_) (fun h5 => ?_)
        · refine g_iload F dX9_reads_87 0 rfl ?_
          exact K _ _ _ _ dX9_reads_89 rfl ⟨by first | (rw [rdgR, if_pos (And.intro (Int32.not_le.mp h1) (Int32.not_le.mp h2))]; done) | ((first | rw [rdgR, if_neg (fun z => Int32.not_lt.mpr h1 z.1)] | rw [rdgR, if_neg (fun z => Int32.not_lt.mpr h2 z.2)]); (first | (rw [if_pos (Int32.not_le.mp h4)]; done) | (rw [if_neg (Int32.not_lt.mpr h4), if_pos (Int32.not_le.mp h5)]; done) | (rw [if_neg (Int32.not_lt.mpr h4), if_neg (Int32.not_lt.mpr h5)]; done))), rfl⟩
        · refine g_iconst F (v := 5) dX9_reads_83 (by decide) ?_
          refine g_goto F 89 dX9_reads_84 (by decide) ?_
          exact K _ _ _ _ dX9_reads_89 rfl ⟨by first | (rw [rdgR, if_pos (And.intro (Int32.not_le.mp h1) (Int32.not_le.mp h2))]; done) | ((first | rw [rdgR, if_neg (fun z => Int32.not_lt.mpr h1 z.1)] | rw [rdgR, if_neg (fun z => Int32.not_lt.mpr h2 z.2)]); (first | (rw [if_pos (Int32.not_le.mp h4)]; done) | (rw [if_neg (Int32.not_lt.mpr h4), if_pos (Int32.not_le.mp h5)]; done) | (rw [if_neg (Int32.not_lt.mpr h4), if_neg (Int32.not_lt.mpr h5)]; done))), rfl⟩
      · refine g_iconst F (v := 0) dX9_reads_73 (by decide) ?_
        refine g_goto F 89 dX9_reads_74 (by decide) ?_
        exact K _ _ _ _ dX9_reads_89 rfl ⟨by first | (rw [rdgR, if_pos (And.intro (Int32.not_le.mp h1) (Int32.not_le.mp h2))]; done) | ((first | rw [rdgR, if_neg (fun z => Int32.not_lt.mpr h1 z.1)] | rw [rdgR, if_neg (fun z => Int32.not_lt.mpr h2 z.2)]); (first | (rw [if_pos (Int32.not_le.mp h4)]; done) | (rw [if_neg (Int32.not_lt.mpr h4), if_pos (Int32.not_le.mp h5)]; done) | (rw [if_neg (Int32.not_lt.mpr h4), if_neg (Int32.not_lt.mpr h5)]; done))), rfl⟩
  · refine g_iload_n F dX9_reads_28 rfl 0 rfl ?_
    refine g_iconst F (v := 3) dX9_reads_29 (by decide) ?_
    refine g_icmp_ge F 35 dX9_reads_30 (by decide) (fun h2 => ?_) (fun h2 => ?_)
    · refine g_iload_n F dX9_reads_35 rfl 0 rfl ?_
      refine g_aload_n F dX9_reads_36 rfl 1 rfl ?_
      refine gg9_state F iX9_reads_9 r709 (by decide +kernel) dX9_reads_37 ?_
      refine g_bipush F (v := 56) dX9_reads_40 (by decide +kernel) ?_
      refine g_iload_n F dX9_reads_42 rfl 2 rfl ?_
      refine g_iadd F dX9_reads_43 ?_
      refine g_top (nI_add (56) (k)) ?_
      refine g_iaload (r := 710) F a710 ((56 + k)) rfl (by omega) (by decide) dX9_reads_44 ?_
      refine g_iadd F dX9_reads_45 ?_
      refine g_aload_n F dX9_reads_46 rfl 1 rfl ?_
      refine gg9_state F iX9_reads_9 r709 (by decide +kernel) dX9_reads_47 ?_
      refine g_bipush F (v := 59) dX9_reads_50 (by decide +kernel) ?_
      refine g_iload_n F dX9_reads_52 rfl 2 rfl ?_
      refine g_iadd F dX9_reads_53 ?_
      refine g_top (nI_add (59) (k)) ?_
      refine g_iaload (r := 710) F a710 ((59 + k)) rfl (by omega) (by decide) dX9_reads_54 ?_
      refine g_bipush F (v := 12) dX9_reads_55 (by decide +kernel) ?_
      refine g_icmp_ge F 64 dX9_reads_57 (by decide) (fun h3 => ?_) (fun h3 => ?_)
      · refine g_iconst F (v := 1) dX9_reads_64 (by decide) ?_
        refine g_isub F dX9_reads_65 ?_
        refine g_top (y := tldR (M 710) k (shR (M 710) c (M 710 74))) (by unfold tldR; first | (rw [if_neg (Int32.not_lt.mpr h3)]; done) | (rw [if_pos (Int32.not_le.mp h3)]; done)) ?_
        refine g_istore F (lv2 := [(4, _), (3, _), (0, _), (1, _), (2, _)]) dX9_reads_66 (by decide) rfl ?_
        refine g_iload F dX9_reads_68 0 rfl ?_
        refine g_if_ge F 77 dX9_reads_70 (by decide) (fun h4 => ?_) (fun h4 => ?_)
        · refine g_iload F dX9_reads_77 0 rfl ?_
          refine g_iconst F (v := 5) dX9_reads_79 (by decide) ?_
          refine g_icmp_le F 87 dX9_reads_80 (by decide) (fun h5 => ?_) (fun h5 => ?_)
          · refine g_iload F dX9_reads_87 0 rfl ?_
            exact K _ _ _ _ dX9_reads_89 rfl ⟨by first | (rw [rdgR, if_pos (And.intro (Int32.not_le.mp h1) (Int32.not_le.mp h2))]; done) | ((first | rw [rdgR, if_neg (fun z => Int32.not_lt.mpr h1 z.1)] | rw [rdgR, if_neg (fun z => Int32.not_lt.mpr h2 z.2)]); (first | (rw [if_pos (Int32.not_le.mp h4)]; done) | (rw [if_neg (Int32.not_lt.mpr h4), if_pos (Int32.not_le.mp h5)]; done) | (rw [if_neg (Int32.not_lt.mpr h4), if_neg (Int32.not_lt.mpr h5)]; done))), rfl⟩
          · refine g_iconst F (v := 5) dX9_reads_83 (by decide) ?_
            refine g_goto F 89 dX9_reads_84 (by decide) ?_
            exact K _ _ _ _ dX9_reads_89 rfl ⟨by first | (rw [rdgR, if_pos (And.intro (Int32.not_le.mp h1) (Int32.not_le.mp h2))]; done) | ((first | rw [rdgR, if_neg (fun z => Int32.not_lt.mpr h1 z.1)] | rw [rdgR, if_neg (fun z => Int32.not_lt.mpr h2 z.2)]); (first | (rw [if_pos (Int32.not_le.mp h4)]; done) | (rw [if_neg (Int32.not_lt.mpr h4), if_pos (Int32.not_le.mp h5)]; done) | (rw [if_neg (Int32.not_lt.mpr h4), if_neg (Int32.not_lt.mpr h5)]; done))), rfl⟩
        · refine g_iconst F (v := 0) dX9_reads_73 (by decide) ?_
          refine g_goto F 89 dX9_reads_74 (by decide) ?_
          exact K _ _ _ _ dX9_reads_89 rfl ⟨by first | (rw [rdgR, if_pos (And.intro (Int32.not_le.mp h1) (Int32.not_le.mp h2))]; done) | ((first | rw [rdgR, if_neg (fun z => Int32.not_lt.mpr h1 z.1)] | rw [rdgR, if_neg (fun z => Int32.not_lt.mpr h2 z.2)]); (first | (rw [if_pos (Int32.not_le.mp h4)]; done) | (rw [if_neg (Int32.not_lt.mpr h4), if_pos (Int32.not_le.mp h5)]; done) | (rw [if_neg (Int32.not_lt.mpr h4), if_neg (Int32.not_lt.mpr h5)]; done))), rfl⟩
      · refine g_iconst F (v := 0) dX9_reads_60 (by decide) ?_
        refine g_goto F 65 dX9_reads_61 (by decide) ?_
        refine g_isub F dX9_reads_65 ?_
        refine g_top (y := tldR (M 710) k (shR (M 710) c (M 710 74))) (by unfold tldR; first | (rw [if_neg (Int32.not_lt.mpr h3)]; done) | (rw [if_pos (Int32.not_le.mp h3)]; done)) ?_
        refine g_istore F (lv2 := [(4, _), (3, _), (0, _), (1, _), (2, _)]) dX9_reads_66 (by decide) rfl ?_
        refine g_iload F dX9_reads_68 0 rfl ?_
        refine g_if_ge F 77 dX9_reads_70 (by decide) (fun h4 => ?_) (fun h4 => ?_)
        · refine g_iload F dX9_reads_77 0 rfl ?_
          refine g_iconst F (v := 5) dX9_reads_79 (by decide) ?_
          refine g_icmp_le F 87 dX9_reads_80 (by decide) (fun h5 => ?_) (fun h5 => ?_)
          · refine g_iload F dX9_reads_87 0 rfl ?_
            exact K _ _ _ _ dX9_reads_89 rfl ⟨by first | (rw [rdgR, if_pos (And.intro (Int32.not_le.mp h1) (Int32.not_le.mp h2))]; done) | ((first | rw [rdgR, if_neg (fun z => Int32.not_lt.mpr h1 z.1)] | rw [rdgR, if_neg (fun z => Int32.not_lt.mpr h2 z.2)]); (first | (rw [if_pos (Int32.not_le.mp h4)]; done) | (rw [if_neg (Int32.not_lt.mpr h4), if_pos (Int32.not_le.mp h5)]; done) | (rw [if_neg (Int32.not_lt.mpr h4), if_neg (Int32.not_lt.mpr h5)]; done))), rfl⟩
          · refine g_iconst F (v := 5) dX9_reads_83 (by decide) ?_
            refine g_goto F 89 dX9_reads_84 (by decide) ?_
            exact K _ _ _ _ dX9_reads_89 rfl ⟨by first | (rw [rdgR, if_pos (And.intro (Int32.not_le.mp h1) (Int32.not_le.mp h2))]; done) | ((first | rw [rdgR, if_neg (fun z => Int32.not_lt.mpr h1 z.1)] | rw [rdgR, if_neg (fun z => Int32.not_lt.mpr h2 z.2)]); (first | (rw [if_pos (Int32.not_le.mp h4)]; done) | (rw [if_neg (Int32.not_lt.mpr h4), if_pos (Int32.not_le.mp h5)]; done) | (rw [if_neg (Int32.not_lt.mpr h4), if_neg (Int32.not_lt.mpr h5)]; done))), rfl⟩
        · refine g_iconst F (v := 0) dX9_reads_73 (by decide) ?_
          refine g_goto F 89 dX9_reads_74 (by decide) ?_
          exact K _ _ _ _ dX9_reads_89 rfl ⟨by first | (rw [rdgR, if_pos (And.intro (Int32.not_le.mp h1) (Int32.not_le.mp h2))]; done) | ((first | rw [rdgR, if_neg (fun z => Int32.not_lt.mpr h1 z.1)] | rw [rdgR, if_neg (fun z => Int32.not_lt.mpr h2 z.2)]); (first | (rw [if_pos (Int32.not_le.mp h4)]; done) | (rw [if_neg (Int32.not_lt.mpr h4), if_pos (Int32.not_le.mp h5)]; done) | (rw [if_neg (Int32.not_lt.mpr h4), if_neg (Int32.not_lt.mpr h5)]; done))), rfl⟩
    · refine g_iconst F (v := 0) dX9_reads_33 (by decide) ?_
      exact K _ _ _ _ dX9_reads_34 rfl ⟨by first | (rw [rdgR, if_pos (And.intro (Int32.not_le.mp h1) (Int32.not_le.mp h2))]; done) | ((first | rw [rdgR, if_neg (fun z => Int32.not_lt.mpr h1 z.1)] | rw [rdgR, if_neg (fun z => Int32.not_lt.mpr h2 z.2)]); (first | (rw [if_pos (Int32.not_le.mp h4)]; done) | (rw [if_neg (Int32.not_lt.mpr h4), if_pos (Int32.not_le.mp h5)]; done) | (rw [if_neg (Int32.not_lt.mpr h4), if_neg (Int32.not_lt.mpr h5)]; done))), rfl⟩

abbrev rmX9_readingIn : Room := { frames := 0, cells := 0, slots := 0, locals := 0 }
theorem iX9_readingIn_9 : ∀ w ∈ u_ws RX9 TX9 15, w ∈ wsX9_readingIn := by decide +kernel
set_option maxHeartbeats 400000 in
set_option maxRecDepth 100000 in
theorem kX9_readingIn (l : Launch) {M : Mm} {c t : Nat} (hc : c < 8) (ht : t < 96) : Ct l yX9_readingIn wsX9_readingIn rmX9_readingIn (fun B => [.ref (B + 709), .int (nI c), .int (nI t)]) M (fun _ v u => v = some (.int (M 710 (172 + 96 * c + t))) ∧ u = M) := by
  refine Ct.ofI (own := RX9) (by decide +kernel) rfl rfl (fun B => Nat.le_of_ble_eq_true rfl) ?_
  intro pp ee ss mm aa bb me c9 DD ca B Tl AA QQ F K
  show G pp l ee rmX9_readingIn ss mm aa bb me c9 QQ DD ca B Tl AA 3 0 0 M 0 [(0, .ref (B + 709)), (1, .int (nI c)), (2, .int (nI t))] []
  refine g_aload_n F dX9_readingIn_0 rfl 0 rfl ?_
  refine gg9_state F iX9_readingIn_9 r709 (by decide +kernel) dX9_readingIn_1 ?_
  refine g_sipush F (v := 172) dX9_readingIn_4 (by decide +kernel) ?_
  refine g_bipush F (v := 96) dX9_readingIn_7 (by decide +kernel) ?_
  refine g_iload_n F dX9_readingIn_9 rfl 1 rfl ?_
  refine g_imul F dX9_readingIn_10 ?_
  refine g_top (pk_mul (96) (c)) ?_
  refine g_iadd F dX9_readingIn_11 ?_
  refine g_top (nI_add (172) ((96 * c))) ?_
  refine g_iload_n F dX9_readingIn_12 rfl 2 rfl ?_
  refine g_iadd F dX9_readingIn_13 ?_
  refine g_top (nI_add ((172 + (96 * c))) (t)) ?_
  refine g_iaload (r := 710) F a710 (((172 + (96 * c)) + t)) rfl (by omega) (by decide) dX9_readingIn_14 ?_
  exact K _ _ _ _ dX9_readingIn_15 rfl ⟨rfl, rfl⟩
