def cpCh (M : Mm) (r q : Nat) : Mm := va_up (va_up (va_up M r (M q)) (r + 1 + 1) (M (q + 1 + 1))) (r + 3 + 1) (M (q + 3 + 1))

abbrev rmX0_copyFrom : Room := { frames := 2, cells := 0, slots := 0, locals := 81 }
theorem iX0_copyFrom_0 : ∀ w ∈ u_ws RX0 TX0 8, w ∈ wsX0_copyFrom := by decide +kernel
set_option maxHeartbeats 4000000 in
set_option maxRecDepth 100000 in
theorem kX0_copyFrom (l : Launch) {M : Mm} {r q : Nat} (hr : isR 0 r) (hq : isR 0 q) (hqr : q ≠ r) : Ct l yX0_copyFrom wsX0_copyFrom rmX0_copyFrom (fun B => [.ref (B + r), .ref (B + q)]) M (fun _ v u => v = none ∧ u = cpCh M r q) := by
  refine Ct.ofV (own := RX0) (by decide +kernel) rfl rfl (fun B => Nat.le_of_ble_eq_true rfl) ?_
  intro pp ee ss mm aa bb me c9 DD ca B Tl AA QQ F K
  show G pp l ee rmX0_copyFrom ss mm aa bb me c9 QQ DD ca B Tl AA 2 0 0 M 0 [(0, .ref (B + r)), (1, .ref (B + q))] []
  have n1 : q + 1 + 1 ≠ r := (isR_ne hr (isAR (sb1 (sb0 hq).1)) (by decide)).symm
  have n2 : q + 3 + 1 ≠ r := (isR_ne hr (isAR (sb1 (sb0 hq).2)) (by decide)).symm
  refine g_aload_n F dX0_copyFrom_0 rfl 0 rfl ?_
  refine g_aload_n F dX0_copyFrom_1 rfl 1 rfl ?_
  refine gg0_fire F iX0_copyFrom_0 hq (by decide +kernel) dX0_copyFrom_2 ?_
  refine gp0_fire F iX0_copyFrom_0 hr (by decide +kernel) dX0_copyFrom_5 ?_
  try simp only [bx_uu, va_up_self, va_up_ne M _ hqr]
  refine g_aload_n F dX0_copyFrom_8 rfl 0 rfl ?_
  refine g_aload_n F dX0_copyFrom_9 rfl 1 rfl ?_
  refine gg0_damp F iX0_copyFrom_0 hq (by decide +kernel) dX0_copyFrom_10 ?_
  refine gp0_damp F iX0_copyFrom_0 hr (by decide +kernel) dX0_copyFrom_13 ?_
  try simp only [bx_uu, va_up_self, va_up_ne M _ hqr]
  refine g_aload_n F dX0_copyFrom_16 rfl 0 rfl ?_
  refine g_aload_n F dX0_copyFrom_17 rfl 1 rfl ?_
  refine gg0_turn F iX0_copyFrom_0 hq (by decide +kernel) dX0_copyFrom_18 ?_
  refine gp0_turn F iX0_copyFrom_0 hr (by decide +kernel) dX0_copyFrom_21 ?_
  try simp only [bx_uu, va_up_self, va_up_ne M _ hqr]
  refine g_aload_n F dX0_copyFrom_24 rfl 0 rfl ?_
  refine g_aload_n F dX0_copyFrom_25 rfl 1 rfl ?_
  refine gg0_begin F iX0_copyFrom_0 hq (by decide +kernel) dX0_copyFrom_26 ?_
  refine gp0_begin F iX0_copyFrom_0 hr (by decide +kernel) dX0_copyFrom_29 ?_
  try simp only [bx_uu, va_up_self, va_up_ne M _ hqr]
  refine g_aload_n F dX0_copyFrom_32 rfl 0 rfl ?_
  refine g_aload_n F dX0_copyFrom_33 rfl 1 rfl ?_
  refine gg0_finesGiven F iX0_copyFrom_0 hq (by decide +kernel) dX0_copyFrom_34 ?_
  refine gp0_finesGiven F iX0_copyFrom_0 hr (by decide +kernel) dX0_copyFrom_37 ?_
  try simp only [bx_uu, va_up_self, va_up_ne M _ hqr]
  refine g_aload_n F dX0_copyFrom_40 rfl 0 rfl ?_
  refine g_aload_n F dX0_copyFrom_41 rfl 1 rfl ?_
  refine gg0_finesBack F iX0_copyFrom_0 hq (by decide +kernel) dX0_copyFrom_42 ?_
  refine gp0_finesBack F iX0_copyFrom_0 hr (by decide +kernel) dX0_copyFrom_45 ?_
  try simp only [bx_uu, va_up_self, va_up_ne M _ hqr]
  refine g_ext (M q) (fun j hj => by rw [show nf r = 6 from by simp only [nf, hr.2]] at hj; rcases (show j = 0 ∨ j = 1 ∨ j = 2 ∨ j = 3 ∨ j = 4 ∨ j = 5 by omega) with rfl | rfl | rfl | rfl | rfl | rfl <;> simp [upd]) ?_
  refine g_aload_n F dX0_copyFrom_48 rfl 0 rfl ?_
  refine gg0_readings F iX0_copyFrom_0 hr (by decide +kernel) dX0_copyFrom_49 ?_
  refine g_aload_n F dX0_copyFrom_52 rfl 1 rfl ?_
  refine gg0_readings F iX0_copyFrom_0 hq (by decide +kernel) dX0_copyFrom_53 ?_
  refine g_callV F (kX1_copyFrom l (sb0 hr).1 (sb0 hq).1) (cwV 1 F.1.2.2.2.2 gX0_copyFrom_X1_copyFrom rfl rfl rfl (by decide +kernel) ⟨Nat.le_of_ble_eq_true rfl, Nat.le_of_ble_eq_true rfl⟩) (sb0 hr).1 (by decide) rfl rfl rfl rfl (Nat.le_of_ble_eq_true rfl) dX0_copyFrom_56 ⟨Nat.le_of_ble_eq_true rfl, Nat.le_of_ble_eq_true rfl⟩ (g_det ?_)
  refine g_aload_n F dX0_copyFrom_59 rfl 0 rfl ?_
  refine gg0_shadesThen F iX0_copyFrom_0 hr (by decide +kernel) dX0_copyFrom_60 ?_
  refine g_aload_n F dX0_copyFrom_63 rfl 1 rfl ?_
  refine gg0_shadesThen F iX0_copyFrom_0 hq (by decide +kernel) dX0_copyFrom_64 ?_
  refine g_callV F (kX1_copyFrom l (sb0 hr).2 (sb0 hq).2) (cwV 1 F.1.2.2.2.2 gX0_copyFrom_X1_copyFrom rfl rfl rfl (by decide +kernel) ⟨Nat.le_of_ble_eq_true rfl, Nat.le_of_ble_eq_true rfl⟩) (sb0 hr).2 (by decide) rfl rfl rfl rfl (Nat.le_of_ble_eq_true rfl) dX0_copyFrom_67 ⟨Nat.le_of_ble_eq_true rfl, Nat.le_of_ble_eq_true rfl⟩ (g_det ?_)
  exact K _ _ _ dX0_copyFrom_70 ⟨rfl, by rw [va_up_ne (va_up M r (M q)) _ (show q + 3 + 1 ≠ r + 1 + 1 by omega), va_up_ne M _ n1, va_up_ne M _ n2]; rfl⟩

def stoC (f : Nat → Int32) (x : Int32) : Int32 := if f 3 < x then (if remC (x - f 3) (f 2) = 0 then (if 0 ≤ x ∧ x ≤ 95 then x else -1) else (if 0 ≤ x - remC (x - f 3) (f 2) + f 2 ∧ x - remC (x - f 3) (f 2) + f 2 ≤ 95 then x - remC (x - f 3) (f 2) + f 2 else -1)) else f 3

abbrev rmX0_stokedFrom : Room := { frames := 2, cells := 0, slots := 0, locals := 42 }
theorem iX0_stokedFrom_0 : ∀ w ∈ u_ws RX0 TX0 8, w ∈ wsX0_stokedFrom := by decide +kernel
set_option maxHeartbeats 4000000 in
set_option maxRecDepth 100000 in
theorem kX0_stokedFrom (l : Launch) {M : Mm} {r : Nat} (hr : isR 0 r) (x : Int32) : Ct l yX0_stokedFrom wsX0_stokedFrom rmX0_stokedFrom (fun B => [.ref (B + r), .int x]) M (fun _ v u => v = some (.int (stoC (M r) x)) ∧ u = M) := by
  refine Ct.ofI (own := RX0) (by decide +kernel) rfl rfl (fun B => Nat.le_of_ble_eq_true rfl) ?_
  intro pp ee ss mm aa bb me c9 DD ca B Tl AA QQ F K
  show G pp l ee rmX0_stokedFrom ss mm aa bb me c9 QQ DD ca B Tl AA 4 0 0 M 0 [(0, .ref (B + r)), (1, .int x)] []
  refine g_iload_n F dX0_stokedFrom_0 rfl 1 rfl ?_
  refine g_aload_n F dX0_stokedFrom_1 rfl 0 rfl ?_
  refine gg0_begin F iX0_stokedFrom_0 hr (by decide +kernel) dX0_stokedFrom_2 ?_
  refine g_icmp_gt F 13 dX0_stokedFrom_5 (by decide) (fun h1 => ?_) (fun h1 => ?_)
  · refine g_aload_n F dX0_stokedFrom_13 rfl 0 rfl ?_
    refine g_iload_n F dX0_stokedFrom_14 rfl 1 rfl ?_
    refine g_aload_n F dX0_stokedFrom_15 rfl 0 rfl ?_
    refine gg0_begin F iX0_stokedFrom_0 hr (by decide +kernel) dX0_stokedFrom_16 ?_
    refine g_isub F dX0_stokedFrom_19 ?_
    refine g_callV F (kX0_leftOf l hr _) (cwV 1 F.1.2.2.2.2 gX0_stokedFrom_X0_leftOf rfl rfl rfl (by decide +kernel) ⟨Nat.le_of_ble_eq_true rfl, Nat.le_of_ble_eq_true rfl⟩) hr (by decide) rfl rfl rfl rfl (Nat.le_of_ble_eq_true rfl) dX0_stokedFrom_20 ⟨Nat.le_of_ble_eq_true rfl, Nat.le_of_ble_eq_true rfl⟩ (g_det ?_)
    refine g_istore_n F (lv2 := [(2, _), (0, _), (1, _)]) dX0_stokedFrom_23 rfl (by decide) rfl ?_
    refine g_iload_n F dX0_stokedFrom_24 rfl 0 rfl ?_
    refine g_if_ne F 32 dX0_stokedFrom_25 (by decide) (fun h2 => ?_) (fun h2 => ?_)
    · refine g_iload_n F dX0_stokedFrom_32 rfl 2 rfl ?_
      refine g_iload_n F dX0_stokedFrom_33 rfl 0 rfl ?_
      refine g_isub F dX0_stokedFrom_34 ?_
      refine g_aload_n F dX0_stokedFrom_35 rfl 1 rfl ?_
      refine gg0_turn F iX0_stokedFrom_0 hr (by decide +kernel) dX0_stokedFrom_36 ?_
      refine g_iadd F dX0_stokedFrom_39 ?_
      refine g_istore_n F (lv2 := [(3, _), (2, _), (0, _), (1, _)]) dX0_stokedFrom_40 rfl (by decide) rfl ?_
      refine g_iload_n F dX0_stokedFrom_41 rfl 0 rfl ?_
      refine g_callSN F (kX8_isTick l _) ⟨va_cnB 1 F.1.2.2.2.2 gX0_stokedFrom_X8_isTick_n51 rfl rfl rfl (F.2.2.2.1.1 (RX0, 51, yX8_isTick, "ShadeCards") (by decide +kernel)) (F.1.2.2.2.2 (.initialized RX8) (by decide +kernel)) (by decide +kernel) ⟨Nat.le_of_ble_eq_true rfl, Nat.le_of_ble_eq_true rfl⟩, F.1.2.2.2.2 (.static yX8_isTick) (by decide +kernel), trivial⟩ rfl rfl rfl (Nat.le_of_ble_eq_true rfl) dX0_stokedFrom_42 ⟨Nat.le_of_ble_eq_true rfl, Nat.le_of_ble_eq_true rfl⟩ (g_det ?_)
      refine g_ifB_eq F 52 dX0_stokedFrom_45 (by decide) (fun h3 => ?_) (fun h3 => ?_)
      · refine g_iconst F (v := -1) dX0_stokedFrom_52 (by decide) ?_
        exact K _ _ _ _ dX0_stokedFrom_53 rfl ⟨by simp [stoC, *], rfl⟩
      · refine g_iload_n F dX0_stokedFrom_48 rfl 0 rfl ?_
        refine g_goto F 53 dX0_stokedFrom_49 (by decide) ?_
        exact K _ _ _ _ dX0_stokedFrom_53 rfl ⟨by simp [stoC, *], rfl⟩
    · refine g_iload_n F dX0_stokedFrom_28 rfl 2 rfl ?_
      refine g_goto F 40 dX0_stokedFrom_29 (by decide) ?_
      refine g_istore_n F (lv2 := [(3, _), (2, _), (0, _), (1, _)]) dX0_stokedFrom_40 rfl (by decide) rfl ?_
      refine g_iload_n F dX0_stokedFrom_41 rfl 0 rfl ?_
      refine g_callSN F (kX8_isTick l _) ⟨va_cnB 1 F.1.2.2.2.2 gX0_stokedFrom_X8_isTick_n51 rfl rfl rfl (F.2.2.2.1.1 (RX0, 51, yX8_isTick, "ShadeCards") (by decide +kernel)) (F.1.2.2.2.2 (.initialized RX8) (by decide +kernel)) (by decide +kernel) ⟨Nat.le_of_ble_eq_true rfl, Nat.le_of_ble_eq_true rfl⟩, F.1.2.2.2.2 (.static yX8_isTick) (by decide +kernel), trivial⟩ rfl rfl rfl (Nat.le_of_ble_eq_true rfl) dX0_stokedFrom_42 ⟨Nat.le_of_ble_eq_true rfl, Nat.le_of_ble_eq_true rfl⟩ (g_det ?_)
      refine g_ifB_eq F 52 dX0_stokedFrom_45 (by decide) (fun h3 => ?_) (fun h3 => ?_)
      · refine g_iconst F (v := -1) dX0_stokedFrom_52 (by decide) ?_
        exact K _ _ _ _ dX0_stokedFrom_53 rfl ⟨by simp [stoC, *], rfl⟩
      · refine g_iload_n F dX0_stokedFrom_48 rfl 0 rfl ?_
        refine g_goto F 53 dX0_stokedFrom_49 (by decide) ?_
        exact K _ _ _ _ dX0_stokedFrom_53 rfl ⟨by simp [stoC, *], rfl⟩
  · refine g_aload_n F dX0_stokedFrom_8 rfl 0 rfl ?_
    refine gg0_begin F iX0_stokedFrom_0 hr (by decide +kernel) dX0_stokedFrom_9 ?_
    exact K _ _ _ _ dX0_stokedFrom_12 rfl ⟨by simp [stoC, *], rfl⟩

abbrev rmX0_smokeByTicks : Room := { frames := 2, cells := 0, slots := 0, locals := 43 }
set_option maxHeartbeats 4000000 in
set_option maxRecDepth 100000 in
theorem kX0_smokeByTicks (l : Launch) {M : Mm} {r : Nat} (hr : isR 0 r) (i0 b1 : Nat) (hab : i0 ≤ b1) (hb : b1 < 1000) (y : Int32) (hy : ∀ i : Nat, i < 1001 → (y < nI i ↔ b1 ≤ i)) : Ct l yX0_smokeByTicks wsX0_smokeByTicks rmX0_smokeByTicks (fun B => [.ref (B + r), .int (nI i0), .int y]) M (fun _ v u => v = some (.int (sumF (fun t => shC M r (nI t)) i0 (b1 - i0))) ∧ u = M) := by
  refine Ct.ofI (own := RX0) (by decide +kernel) rfl rfl (fun B => Nat.le_of_ble_eq_true rfl) ?_
  intro pp ee ss mm aa bb me c9 DD ca B Tl AA QQ F K
  show G pp l ee rmX0_smokeByTicks ss mm aa bb me c9 QQ DD ca B Tl AA 5 0 0 M 0 [(0, .ref (B + r)), (1, .int (nI i0)), (2, .int y)] []
  refine g_iconst F (v := 0) dX0_smokeByTicks_0 (by decide) ?_
  refine g_istore_n F (lv2 := [(3, _), (0, _), (1, _), (2, _)]) dX0_smokeByTicks_1 rfl (by decide) rfl ?_
  refine g_iload_n F dX0_smokeByTicks_2 rfl 2 rfl ?_
  refine g_istore F (lv2 := [(4, _), (3, _), (0, _), (1, _), (2, _)]) dX0_smokeByTicks_3 (by decide) rfl ?_
  have LP : ∀ (ni i : Nat), i + ni = b1 → i0 ≤ i → G pp l ee rmX0_smokeByTicks ss mm aa bb me c9 QQ DD ca B Tl AA 5 0 0 (M) 5 [(4, .int (nI i)), (0, .ref (B + r)), (1, .int (nI i0)), (2, .int y), (3, .int (sumF (fun t => shC M r (nI t)) i0 (i - i0)))] [] := by
    intro ni
    induction ni with
    | zero =>
      intro i hni hyi
      refine g_iload F dX0_smokeByTicks_5 0 rfl ?_
      refine g_iload_n F dX0_smokeByTicks_7 rfl 3 rfl ?_
      refine g_icmp_gt F 26 dX0_smokeByTicks_8 (by decide) (fun h1 => ?_) (fun h1 => ?_)
      · obtain rfl : i = b1 := by have := (hy i (by omega)).mp h1; omega
        refine g_iload_n F dX0_smokeByTicks_26 rfl 4 rfl ?_
        exact K _ _ _ _ dX0_smokeByTicks_27 rfl ⟨rfl, rfl⟩
      · exact absurd ((hy i (by omega)).mpr (by omega)) h1
    | succ ni ihi =>
      intro i hni hyi
      refine g_iload F dX0_smokeByTicks_5 0 rfl ?_
      refine g_iload_n F dX0_smokeByTicks_7 rfl 3 rfl ?_
      refine g_icmp_gt F 26 dX0_smokeByTicks_8 (by decide) (fun h1 => ?_) (fun h1 => ?_)
      · exact absurd ((hy i (by omega)).mp h1) (by omega)
      · refine g_iload_n F dX0_smokeByTicks_11 rfl 4 rfl ?_
        refine g_aload_n F dX0_smokeByTicks_12 rfl 1 rfl ?_
        refine g_iload F dX0_smokeByTicks_13 0 rfl ?_
        refine g_callV F (kX0_shadeAt l hr _) (cwV 1 F.1.2.2.2.2 gX0_smokeByTicks_X0_shadeAt rfl rfl rfl (by decide +kernel) ⟨Nat.le_of_ble_eq_true rfl, Nat.le_of_ble_eq_true rfl⟩) hr (by decide) rfl rfl rfl rfl (Nat.le_of_ble_eq_true rfl) dX0_smokeByTicks_15 ⟨Nat.le_of_ble_eq_true rfl, Nat.le_of_ble_eq_true rfl⟩ (g_det ?_)
        refine g_iadd F dX0_smokeByTicks_18 ?_
        refine g_istore_n F (lv2 := [(3, _), (4, _), (0, _), (1, _), (2, _)]) dX0_smokeByTicks_19 rfl (by decide) rfl ?_
        refine g_iinc F (lv2 := [(4, _), (3, _), (0, _), (1, _), (2, _)]) dX0_smokeByTicks_20 1 rfl (nI_1 _) (by decide) rfl ?_
        refine g_goto F 5 dX0_smokeByTicks_23 (by decide) ?_
        refine g_lv (lv2 := [(4, _), (0, _), (1, _), (2, _), (3, _)]) [0, 2, 3, 4, 1] rfl ?_
        exact g_is rfl (by rw [show i + 1 - i0 = (i - i0) + 1 by omega]; simp only [sumF]; rw [show i0 + (i - i0) = i by omega]) (ihi (i + 1) (by omega) (by omega))
  refine g_lv (lv2 := [(4, _), (0, _), (1, _), (2, _), (3, _)]) [0, 2, 3, 4, 1] rfl ?_
  exact g_is rfl (by rw [Nat.sub_self]; rfl) (LP (b1 - i0) (i0) (by omega) (Nat.le_refl _))

def nrC (M : Mm) (r t : Nat) (x y : Int32) : Mm := va_up (va_up M (r + 1 + 1) (upd (M (r + 1 + 1)) t (mxI x (M (r + 1 + 1) t)))) (r + 3 + 1) (upd (M (r + 3 + 1)) t y)

abbrev rmX0_noteReading : Room := { frames := 1, cells := 0, slots := 0, locals := 22 }
theorem iX0_noteReading_0 : ∀ w ∈ u_ws RX0 TX0 8, w ∈ wsX0_noteReading := by decide +kernel
set_option maxHeartbeats 4000000 in
set_option maxRecDepth 100000 in
theorem kX0_noteReading (l : Launch) {M : Mm} {r t : Nat} (hr : isR 0 r) (ht : t < 96) (x y : Int32) : Ct l yX0_noteReading wsX0_noteReading rmX0_noteReading (fun B => [.ref (B + r), .int (nI t), .int x, .int y]) M (fun _ v u => v = none ∧ u = nrC M r t x y) := by
  refine Ct.ofV (own := RX0) (by decide +kernel) rfl rfl (fun B => Nat.le_of_ble_eq_true rfl) ?_
  intro pp ee ss mm aa bb me c9 DD ca B Tl AA QQ F K
  show G pp l ee rmX0_noteReading ss mm aa bb me c9 QQ DD ca B Tl AA 4 0 0 M 0 [(0, .ref (B + r)), (1, .int (nI t)), (2, .int x), (3, .int y)] []
  refine g_aload_n F dX0_noteReading_0 rfl 0 rfl ?_
  refine gg0_readings F iX0_noteReading_0 hr (by decide +kernel) dX0_noteReading_1 ?_
  refine g_iload_n F dX0_noteReading_4 rfl 1 rfl ?_
  refine g_iload_n F dX0_noteReading_5 rfl 2 rfl ?_
  refine g_aload_n F dX0_noteReading_6 rfl 0 rfl ?_
  refine gg0_readings F iX0_noteReading_0 hr (by decide +kernel) dX0_noteReading_7 ?_
  refine g_iload_n F dX0_noteReading_10 rfl 1 rfl ?_
  refine g_callV F (kX1_at l (sb0 hr).1 _) (cwV 1 F.1.2.2.2.2 gX0_noteReading_X1_at rfl rfl rfl (by decide +kernel) ⟨Nat.le_of_ble_eq_true rfl, Nat.le_of_ble_eq_true rfl⟩) (sb0 hr).1 (by decide) rfl rfl rfl rfl (Nat.le_of_ble_eq_true rfl) dX0_noteReading_11 ⟨Nat.le_of_ble_eq_true rfl, Nat.le_of_ble_eq_true rfl⟩ (g_det ?_)
  refine g_top (atF_n _ ht) ?_
  refine g_mmax F (by decide +kernel) (by decide +kernel) (by decide +kernel) (by decide +kernel) (Nat.le_of_ble_eq_true rfl) (Nat.le_of_ble_eq_true rfl) (Nat.zero_le _) (Nat.zero_le _) dX0_noteReading_14 ?_
  refine g_callV F (kX1_note l (sb0 hr).1 _ _) (cwV 2 F.1.2.2.2.2 gX0_noteReading_X1_note rfl rfl rfl (by decide +kernel) ⟨Nat.le_of_ble_eq_true rfl, Nat.le_of_ble_eq_true rfl⟩) (sb0 hr).1 (by decide) rfl rfl rfl rfl (Nat.le_of_ble_eq_true rfl) dX0_noteReading_17 ⟨Nat.le_of_ble_eq_true rfl, Nat.le_of_ble_eq_true rfl⟩ (g_det ?_)
  refine g_mem (noteF_n _ _ _ ht) ?_
  refine g_aload_n F dX0_noteReading_20 rfl 0 rfl ?_
  refine gg0_shadesThen F iX0_noteReading_0 hr (by decide +kernel) dX0_noteReading_21 ?_
  refine g_iload_n F dX0_noteReading_24 rfl 1 rfl ?_
  refine g_iload_n F dX0_noteReading_25 rfl 3 rfl ?_
  refine g_callV F (kX1_note l (sb0 hr).2 _ _) (cwV 2 F.1.2.2.2.2 gX0_noteReading_X1_note rfl rfl rfl (by decide +kernel) ⟨Nat.le_of_ble_eq_true rfl, Nat.le_of_ble_eq_true rfl⟩) (sb0 hr).2 (by decide) rfl rfl rfl rfl (Nat.le_of_ble_eq_true rfl) dX0_noteReading_26 ⟨Nat.le_of_ble_eq_true rfl, Nat.le_of_ble_eq_true rfl⟩ (g_det ?_)
  refine g_mem (noteF_n _ _ _ ht) ?_
  exact K _ _ _ dX0_noteReading_29 ⟨rfl, by rw [va_up_ne M _ (show r + 3 + 1 ≠ r + 1 + 1 by omega)]; rfl⟩

abbrev rmX0_finesByAccounts : Room := { frames := 0, cells := 0, slots := 0, locals := 0 }
theorem iX0_finesByAccounts_0 : ∀ w ∈ u_ws RX0 TX0 8, w ∈ wsX0_finesByAccounts := by decide +kernel
set_option maxHeartbeats 4000000 in
set_option maxRecDepth 100000 in
theorem kX0_finesByAccounts (l : Launch) {M : Mm} {r : Nat} (hr : isR 0 r) : Ct l yX0_finesByAccounts wsX0_finesByAccounts rmX0_finesByAccounts (fun B => [.ref (B + r)]) M (fun _ v u => v = some (.int (M r 4 - M r 5)) ∧ u = M) := by
  refine Ct.ofI (own := RX0) (by decide +kernel) rfl rfl (fun B => Nat.le_of_ble_eq_true rfl) ?_
  intro pp ee ss mm aa bb me c9 DD ca B Tl AA QQ F K
  show G pp l ee rmX0_finesByAccounts ss mm aa bb me c9 QQ DD ca B Tl AA 1 0 0 M 0 [(0, .ref (B + r))] []
  refine g_aload_n F dX0_finesByAccounts_0 rfl 0 rfl ?_
  refine gg0_finesGiven F iX0_finesByAccounts_0 hr (by decide +kernel) dX0_finesByAccounts_1 ?_
  refine g_aload_n F dX0_finesByAccounts_4 rfl 0 rfl ?_
  refine gg0_finesBack F iX0_finesByAccounts_0 hr (by decide +kernel) dX0_finesByAccounts_5 ?_
  refine g_isub F dX0_finesByAccounts_8 ?_
  exact K _ _ _ _ dX0_finesByAccounts_9 rfl ⟨rfl, rfl⟩

def gyF (f : Nat → Int32) (x : Int32) : Int32 := if x < 0 then 0 else if 24 ≤ x then 0 else f x.toNatClampNeg
theorem gyF_n (f : Nat → Int32) {t : Nat} (h : t < 24) : gyF f (nI t) = f t := by
  unfold gyF
  rw [if_neg (nI_pos (by omega)), if_neg (show ¬ (24 : Int32) ≤ nI t from fun z => absurd ((nI_leI (a := 24) (b := t) (by omega) (by omega)).mp z) (by omega)), nI_clamp (by omega)]
theorem gyF_out (f : Nat → Int32) {x : Int32} (h : x < 0 ∨ 24 ≤ x) : gyF f x = 0 := by
  unfold gyF
  rcases h with h | h
  · rw [if_pos h]
  · split; rfl; first | rfl | rw [if_pos h]
theorem in24 {x : Int32} (h1 : ¬ x < 0) (h2 : ¬ 24 ≤ x) : ∃ t, t < 24 ∧ x = nI t := by
  obtain ⟨j, hj, rfl⟩ := nI_of h1
  exact ⟨j, Nat.lt_of_not_le fun z => h2 ((nI_leI (a := 24) (b := j) (by omega) hj).mpr z), rfl⟩
def cgF (f : Nat → Int32) (x v : Int32) : Nat → Int32 := if x < 0 then f else if 24 ≤ x then f else upd f x.toNatClampNeg v
theorem cgF_n (f : Nat → Int32) (v : Int32) {t : Nat} (h : t < 24) : cgF f (nI t) v = upd f t v := by
  unfold cgF
  rw [if_neg (nI_pos (by omega)), if_neg (show ¬ (24 : Int32) ≤ nI t from fun z => absurd ((nI_leI (a := 24) (b := t) (by omega) (by omega)).mp z) (by omega)), nI_clamp (by omega)]
theorem cgF_out (f : Nat → Int32) (v : Int32) {x : Int32} (h : x < 0 ∨ 24 ≤ x) : cgF f x v = f := by
  unfold cgF
  rcases h with h | h
  · rw [if_pos h]
  · split; rfl; first | rfl | rw [if_pos h]
theorem up_id (M : Mm) (r : Nat) : va_up M r (M r) = M := by
  funext a; by_cases ha : a = r
  · subst ha; rw [va_up_self]
  · rw [va_up_ne M _ ha]

abbrev rmX6_greyInHour : Room := { frames := 0, cells := 0, slots := 0, locals := 0 }
theorem iX6_greyInHour_6 : ∀ w ∈ u_ws RX6 TX6 10, w ∈ wsX6_greyInHour := by decide +kernel
set_option maxHeartbeats 4000000 in
set_option maxRecDepth 100000 in
theorem kX6_greyInHour (l : Launch) {M : Mm} {r : Nat} (hr : isR 6 r) (x : Int32) : Ct l yX6_greyInHour wsX6_greyInHour rmX6_greyInHour (fun B => [.ref (B + r), .int x]) M (fun _ v u => v = some (.int (gyF (M (r + 4)) x)) ∧ u = M) := by
  refine Ct.ofI (own := RX6) (by decide +kernel) rfl rfl (fun B => Nat.le_of_ble_eq_true rfl) ?_
  intro pp ee ss mm aa bb me c9 DD ca B Tl AA QQ F K
  show G pp l ee rmX6_greyInHour ss mm aa bb me c9 QQ DD ca B Tl AA 2 0 0 M 0 [(0, .ref (B + r)), (1, .int x)] []
  refine g_iload_n F dX6_greyInHour_0 rfl 1 rfl ?_
  refine g_if_lt F 19 dX6_greyInHour_1 (by decide) (fun h1 => ?_) (fun h1 => ?_)
  · refine g_iconst F (v := 0) dX6_greyInHour_19 (by decide) ?_
    exact K _ _ _ _ dX6_greyInHour_20 rfl ⟨by first | exact congrArg (fun z => some (Value.int z)) (gyF_n _ ht).symm | exact congrArg (fun z => some (Value.int z)) (gyF_out _ (Or.inl h1)).symm | exact congrArg (fun z => some (Value.int z)) (gyF_out _ (Or.inr h2)).symm, rfl⟩
  · refine g_iload_n F dX6_greyInHour_4 rfl 1 rfl ?_
    refine g_bipush F (v := 24) dX6_greyInHour_5 (by decide +kernel) ?_
    refine g_icmp_ge F 19 dX6_greyInHour_7 (by decide) (fun h2 => ?_) (fun h2 => ?_)
    · refine g_iconst F (v := 0) dX6_greyInHour_19 (by decide) ?_
      exact K _ _ _ _ dX6_greyInHour_20 rfl ⟨by first | exact congrArg (fun z => some (Value.int z)) (gyF_n _ ht).symm | exact congrArg (fun z => some (Value.int z)) (gyF_out _ (Or.inl h1)).symm | exact congrArg (fun z => some (Value.int z)) (gyF_out _ (Or.inr h2)).symm, rfl⟩
    · obtain ⟨t, ht, rfl⟩ := in24 h1 h2
      refine g_aload_n F dX6_greyInHour_10 rfl 0 rfl ?_
      refine gg6_greys F iX6_greyInHour_6 hr (by decide +kernel) dX6_greyInHour_11 ?_
      refine g_iload_n F dX6_greyInHour_14 rfl 1 rfl ?_
      refine g_iaload F (sb6 hr).2.2.2.1 (t) rfl (by omega) (by decide) dX6_greyInHour_15 ?_
      refine g_goto F 20 dX6_greyInHour_16 (by decide) ?_
      exact K _ _ _ _ dX6_greyInHour_20 rfl ⟨by first | exact congrArg (fun z => some (Value.int z)) (gyF_n _ ht).symm | exact congrArg (fun z => some (Value.int z)) (gyF_out _ (Or.inl h1)).symm | exact congrArg (fun z => some (Value.int z)) (gyF_out _ (Or.inr h2)).symm, rfl⟩

abbrev rmX6_greyAtTick : Room := { frames := 1, cells := 0, slots := 0, locals := 21 }
set_option maxHeartbeats 4000000 in
set_option maxRecDepth 100000 in
theorem kX6_greyAtTick (l : Launch) {M : Mm} {r : Nat} (hr : isR 6 r) (x : Int32) : Ct l yX6_greyAtTick wsX6_greyAtTick rmX6_greyAtTick (fun B => [.ref (B + r), .int x]) M (fun _ v u => v = some (.int (gyF (M (r + 4)) (x / 4))) ∧ u = M) := by
  refine Ct.ofI (own := RX6) (by decide +kernel) rfl rfl (fun B => Nat.le_of_ble_eq_true rfl) ?_
  intro pp ee ss mm aa bb me c9 DD ca B Tl AA QQ F K
  show G pp l ee rmX6_greyAtTick ss mm aa bb me c9 QQ DD ca B Tl AA 2 0 0 M 0 [(0, .ref (B + r)), (1, .int x)] []
  refine g_aload_n F dX6_greyAtTick_0 rfl 0 rfl ?_
  refine g_iload_n F dX6_greyAtTick_1 rfl 1 rfl ?_
  refine g_iconst F (v := 4) dX6_greyAtTick_2 (by decide) ?_
  refine g_idiv F dX6_greyAtTick_3 (by decide) ?_
  refine g_callV F (kX6_greyInHour l hr _) (cwV 1 F.1.2.2.2.2 gX6_greyAtTick_X6_greyInHour rfl rfl rfl (by decide +kernel) ⟨Nat.le_of_ble_eq_true rfl, Nat.le_of_ble_eq_true rfl⟩) hr (by decide) rfl rfl rfl rfl (Nat.le_of_ble_eq_true rfl) dX6_greyAtTick_4 ⟨Nat.le_of_ble_eq_true rfl, Nat.le_of_ble_eq_true rfl⟩ (g_det ?_)
  exact K _ _ _ _ dX6_greyAtTick_7 rfl ⟨rfl, rfl⟩

abbrev rmX6_changeGrey : Room := { frames := 0, cells := 0, slots := 0, locals := 0 }
theorem iX6_changeGrey_6 : ∀ w ∈ u_ws RX6 TX6 10, w ∈ wsX6_changeGrey := by decide +kernel
set_option maxHeartbeats 4000000 in
set_option maxRecDepth 100000 in
theorem kX6_changeGrey (l : Launch) {M : Mm} {r : Nat} (hr : isR 6 r) (x y : Int32) : Ct l yX6_changeGrey wsX6_changeGrey rmX6_changeGrey (fun B => [.ref (B + r), .int x, .int y]) M (fun _ v u => v = none ∧ u = va_up M (r + 4) (cgF (M (r + 4)) x y)) := by
  refine Ct.ofV (own := RX6) (by decide +kernel) rfl rfl (fun B => Nat.le_of_ble_eq_true rfl) ?_
  intro pp ee ss mm aa bb me c9 DD ca B Tl AA QQ F K
  show G pp l ee rmX6_changeGrey ss mm aa bb me c9 QQ DD ca B Tl AA 3 0 0 M 0 [(0, .ref (B + r)), (1, .int x), (2, .int y)] []
  refine g_iload_n F dX6_changeGrey_0 rfl 1 rfl ?_
  refine g_if_lt F 17 dX6_changeGrey_1 (by decide) (fun h1 => ?_) (fun h1 => ?_)
  · exact K _ _ _ dX6_changeGrey_17 ⟨rfl, by first | (rw [cgF_n _ _ ht]; done) | (rw [cgF_out _ _ (Or.inl h1), up_id]; done) | (rw [cgF_out _ _ (Or.inr h2), up_id]; done)⟩
  · refine g_iload_n F dX6_changeGrey_4 rfl 1 rfl ?_
    refine g_bipush F (v := 24) dX6_changeGrey_5 (by decide +kernel) ?_
    refine g_icmp_ge F 17 dX6_changeGrey_7 (by decide) (fun h2 => ?_) (fun h2 => ?_)
    · exact K _ _ _ dX6_changeGrey_17 ⟨rfl, by first | (rw [cgF_n _ _ ht]; done) | (rw [cgF_out _ _ (Or.inl h1), up_id]; done) | (rw [cgF_out _ _ (Or.inr h2), up_id]; done)⟩
    · obtain ⟨t, ht, rfl⟩ := in24 h1 h2
      refine g_aload_n F dX6_changeGrey_10 rfl 0 rfl ?_
      refine gg6_greys F iX6_changeGrey_6 hr (by decide +kernel) dX6_changeGrey_11 ?_
      refine g_iload_n F dX6_changeGrey_14 rfl 1 rfl ?_
      refine g_iload_n F dX6_changeGrey_15 rfl 2 rfl ?_
      refine g_iastore F (sb6 hr).2.2.2.1 (t) rfl (by omega) (by decide) dX6_changeGrey_16 ?_
      exact K _ _ _ dX6_changeGrey_17 ⟨rfl, by first | (rw [cgF_n _ _ ht]; done) | (rw [cgF_out _ _ (Or.inl h1), up_id]; done) | (rw [cgF_out _ _ (Or.inr h2), up_id]; done)⟩

abbrev rmX6_hasNotice : Room := { frames := 0, cells := 0, slots := 0, locals := 0 }
theorem iX6_hasNotice_6 : ∀ w ∈ u_ws RX6 TX6 10, w ∈ wsX6_hasNotice := by decide +kernel
set_option maxHeartbeats 4000000 in
set_option maxRecDepth 100000 in
theorem kX6_hasNotice (l : Launch) {M : Mm} {r : Nat} (hr : isR 6 r) (x : Int32) : Ct l yX6_hasNotice wsX6_hasNotice rmX6_hasNotice (fun B => [.ref (B + r), .int x]) M (fun _ v u => v = some (.int (b2i (0 ≤ x ∧ x < M r 5 ∧ x < 20))) ∧ u = M) := by
  refine Ct.ofI (own := RX6) (by decide +kernel) rfl rfl (fun B => Nat.le_of_ble_eq_true rfl) ?_
  intro pp ee ss mm aa bb me c9 DD ca B Tl AA QQ F K
  show G pp l ee rmX6_hasNotice ss mm aa bb me c9 QQ DD ca B Tl AA 2 0 0 M 0 [(0, .ref (B + r)), (1, .int x)] []
  refine g_iload_n F dX6_hasNotice_0 rfl 1 rfl ?_
  refine g_if_lt F 22 dX6_hasNotice_1 (by decide) (fun h1 => ?_) (fun h1 => ?_)
  · refine g_iconst F (v := 0) dX6_hasNotice_22 (by decide) ?_
    exact K _ _ _ _ dX6_hasNotice_23 (by first | exact (bit_z bit_0).1 | exact (bit_z bit_1).1) ⟨by first | exact congrArg (fun z => some (Value.int z)) (b2i_t (And.intro (Int32.not_lt.mp h1) (And.intro (Int32.not_le.mp h2) (Int32.not_le.mp h3)))).symm | exact congrArg (fun z => some (Value.int z)) (b2i_f (fun z => Int32.not_le.mpr h1 z.1)).symm | exact congrArg (fun z => some (Value.int z)) (b2i_f (fun z => Int32.not_lt.mpr h2 z.2.1)).symm | exact congrArg (fun z => some (Value.int z)) (b2i_f (fun z => Int32.not_lt.mpr h3 z.2.2)).symm, rfl⟩
  · refine g_iload_n F dX6_hasNotice_4 rfl 1 rfl ?_
    refine g_aload_n F dX6_hasNotice_5 rfl 0 rfl ?_
    refine gg6_noticeCount F iX6_hasNotice_6 hr (by decide +kernel) dX6_hasNotice_6 ?_
    refine g_icmp_ge F 22 dX6_hasNotice_9 (by decide) (fun h2 => ?_) (fun h2 => ?_)
    · refine g_iconst F (v := 0) dX6_hasNotice_22 (by decide) ?_
      exact K _ _ _ _ dX6_hasNotice_23 (by first | exact (bit_z bit_0).1 | exact (bit_z bit_1).1) ⟨by first | exact congrArg (fun z => some (Value.int z)) (b2i_t (And.intro (Int32.not_lt.mp h1) (And.intro (Int32.not_le.mp h2) (Int32.not_le.mp h3)))).symm | exact congrArg (fun z => some (Value.int z)) (b2i_f (fun z => Int32.not_le.mpr h1 z.1)).symm | exact congrArg (fun z => some (Value.int z)) (b2i_f (fun z => Int32.not_lt.mpr h2 z.2.1)).symm | exact congrArg (fun z => some (Value.int z)) (b2i_f (fun z => Int32.not_lt.mpr h3 z.2.2)).symm, rfl⟩
    · refine g_iload_n F dX6_hasNotice_12 rfl 1 rfl ?_
      refine g_bipush F (v := 20) dX6_hasNotice_13 (by decide +kernel) ?_
      refine g_icmp_ge F 22 dX6_hasNotice_15 (by decide) (fun h3 => ?_) (fun h3 => ?_)
      · refine g_iconst F (v := 0) dX6_hasNotice_22 (by decide) ?_
        exact K _ _ _ _ dX6_hasNotice_23 (by first | exact (bit_z bit_0).1 | exact (bit_z bit_1).1) ⟨by first | exact congrArg (fun z => some (Value.int z)) (b2i_t (And.intro (Int32.not_lt.mp h1) (And.intro (Int32.not_le.mp h2) (Int32.not_le.mp h3)))).symm | exact congrArg (fun z => some (Value.int z)) (b2i_f (fun z => Int32.not_le.mpr h1 z.1)).symm | exact congrArg (fun z => some (Value.int z)) (b2i_f (fun z => Int32.not_lt.mpr h2 z.2.1)).symm | exact congrArg (fun z => some (Value.int z)) (b2i_f (fun z => Int32.not_lt.mpr h3 z.2.2)).symm, rfl⟩
      · refine g_iconst F (v := 1) dX6_hasNotice_18 (by decide) ?_
        refine g_goto F 23 dX6_hasNotice_19 (by decide) ?_
        exact K _ _ _ _ dX6_hasNotice_23 (by first | exact (bit_z bit_0).1 | exact (bit_z bit_1).1) ⟨by first | exact congrArg (fun z => some (Value.int z)) (b2i_t (And.intro (Int32.not_lt.mp h1) (And.intro (Int32.not_le.mp h2) (Int32.not_le.mp h3)))).symm | exact congrArg (fun z => some (Value.int z)) (b2i_f (fun z => Int32.not_le.mpr h1 z.1)).symm | exact congrArg (fun z => some (Value.int z)) (b2i_f (fun z => Int32.not_lt.mpr h2 z.2.1)).symm | exact congrArg (fun z => some (Value.int z)) (b2i_f (fun z => Int32.not_lt.mpr h3 z.2.2)).symm, rfl⟩
