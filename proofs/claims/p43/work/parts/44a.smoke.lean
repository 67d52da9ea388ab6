abbrev rmX8_smoke : Room := { frames := 7, cells := 2, slots := 12, locals := 111 }
theorem iX8_smoke_8 : ∀ w ∈ u_ws RX8 TX8 6, w ∈ wsX8_smoke := by decide +kernel
set_option maxHeartbeats 4000000 in
set_option maxRecDepth 100000 in
theorem kX8_smoke (l : Launch) (hls : l.stackTraces = false) {M : Mm} (hTG : ∀ c, c < 8 → ∃ t g, 2 ≤ t ∧ t ≤ 12 ∧ g ≤ 11 ∧ M (chP 1 c) 2 = nI t ∧ M (chP 1 c) 3 = nI g) (x y z w : Int32) : Cx l yX8_smoke wsX8_smoke rmX8_smoke (fun B => [.ref (B + 0), .int x, .int y, .int z, .int w]) M (fun _ v u => ∃ c a b, c < 8 ∧ x = nI c ∧ a ≤ b ∧ b ≤ 95 ∧ y = nI a ∧ z = nI b ∧ ∃ t g, (2 ≤ t ∧ t ≤ 12 ∧ g ≤ 11 ∧ M (chP 1 c) 2 = nI t ∧ M (chP 1 c) 3 = nI g) ∧ v = some (.int (if w = 0 then sumF (fun j => shC M (chP 1 c) (nI j)) a (b + 1 - a) else smT M (chP 1 c) t g a b)) ∧ u = M) (fun E u => E = xI ∧ ¬ (0 ≤ x ∧ x ≤ 7) ∧ u = M ∨ E = xA ∧ (0 ≤ x ∧ x ≤ 7) ∧ ¬ ((0 ≤ y ∧ y ≤ 95) ∧ (y ≤ z ∧ z ≤ 95)) ∧ u = M) := by
  refine Cx.ofI (own := RX8) hls (by decide +kernel) rfl rfl (fun B => Nat.le_of_ble_eq_true rfl) ?_
  intro pp ee ss mm aa bb me c9 DD ca B Tl AA QQ F K KT KN
  show G pp l ee rmX8_smoke ss mm aa bb me c9 QQ DD ca B Tl AA 6 0 0 M 0 [(0, .ref (B + 0)), (1, .int x), (2, .int y), (3, .int z), (4, .int w)] []
  refine g_aload_n F dX8_smoke_0 rfl 0 rfl ?_
  refine gg8_now F iX8_smoke_8 r0 (by decide +kernel) dX8_smoke_1 ?_
  refine g_iload_n F dX8_smoke_4 rfl 1 rfl ?_
  refine x_callS F (kX8_chimneyOn l hls r1 _) (va_cwS 2 F.1.2.2.2.2 gX8_smoke_X8_chimneyOn rfl rfl rfl (by decide +kernel) ⟨Nat.le_of_ble_eq_true rfl, Nat.le_of_ble_eq_true rfl⟩) rfl rfl rfl (Nat.le_of_ble_eq_true rfl) dX8_smoke_5 ⟨Nat.le_of_ble_eq_true rfl, Nat.le_of_ble_eq_true rfl⟩ (fun v9 u9 h9 => ?_) (fun E9 u9 x9 => KT E9 u9 _ _ _ _ (Nat.le_of_ble_eq_true rfl) (Nat.le_of_ble_eq_true rfl) (Or.inl x9))
  obtain ⟨c, hc, e9, rfl, e6⟩ := h9
  obtain rfl := e6.symm
  refine g_astore F (lv2 := [(5, _), (0, _), (1, _), (2, _), (3, _), (4, _)]) dX8_smoke_8 (by decide) rfl ?_
  refine g_iload_n F dX8_smoke_10 rfl 3 rfl ?_
  refine g_callS F (kX8_isTick l _) (va_cwS 1 F.1.2.2.2.2 gX8_smoke_X8_isTick rfl rfl rfl (by decide +kernel) ⟨Nat.le_of_ble_eq_true rfl, Nat.le_of_ble_eq_true rfl⟩) rfl rfl rfl (Nat.le_of_ble_eq_true rfl) dX8_smoke_11 ⟨Nat.le_of_ble_eq_true rfl, Nat.le_of_ble_eq_true rfl⟩ (g_det ?_)
  refine g_ifB_eq F 33 dX8_smoke_14 (by decide) (fun h1 => ?_) (fun h1 => ?_)
  · refine g_iconst F (v := 0) dX8_smoke_33 (by decide) ?_
    refine x_callS F (kX8_demand l hls _) (va_cwS 1 F.1.2.2.2.2 gX8_smoke_X8_demand rfl rfl rfl (by decide +kernel) ⟨Nat.le_of_ble_eq_true rfl, Nat.le_of_ble_eq_true rfl⟩) rfl rfl rfl (Nat.le_of_ble_eq_true rfl) dX8_smoke_34 ⟨Nat.le_of_ble_eq_true rfl, Nat.le_of_ble_eq_true rfl⟩ (fun v9 u9 h9 => absurd rfl h9.1) (fun E9 u9 x9 => KT E9 u9 _ _ _ _ (Nat.le_of_ble_eq_true rfl) (Nat.le_of_ble_eq_true rfl) (Or.inr ⟨x9.1, in7x e9 hc, (by first | exact (fun q => h3 q.2.1) | exact (fun q => Int32.not_le.mpr h3 q.2.1) | exact (fun q => h2 ⟨Int32.le_trans q.1.1 q.2.1, q.2.2⟩) | exact (fun q => h1 q.1)), x9.2.2⟩))
  · refine g_iload_n F dX8_smoke_17 rfl 4 rfl ?_
    refine g_callS F (kX8_isTick l _) (va_cwS 1 F.1.2.2.2.2 gX8_smoke_X8_isTick rfl rfl rfl (by decide +kernel) ⟨Nat.le_of_ble_eq_true rfl, Nat.le_of_ble_eq_true rfl⟩) rfl rfl rfl (Nat.le_of_ble_eq_true rfl) dX8_smoke_18 ⟨Nat.le_of_ble_eq_true rfl, Nat.le_of_ble_eq_true rfl⟩ (g_det ?_)
    refine g_ifB_eq F 33 dX8_smoke_21 (by decide) (fun h2 => ?_) (fun h2 => ?_)
    · refine g_iconst F (v := 0) dX8_smoke_33 (by decide) ?_
      refine x_callS F (kX8_demand l hls _) (va_cwS 1 F.1.2.2.2.2 gX8_smoke_X8_demand rfl rfl rfl (by decide +kernel) ⟨Nat.le_of_ble_eq_true rfl, Nat.le_of_ble_eq_true rfl⟩) rfl rfl rfl (Nat.le_of_ble_eq_true rfl) dX8_smoke_34 ⟨Nat.le_of_ble_eq_true rfl, Nat.le_of_ble_eq_true rfl⟩ (fun v9 u9 h9 => absurd rfl h9.1) (fun E9 u9 x9 => KT E9 u9 _ _ _ _ (Nat.le_of_ble_eq_true rfl) (Nat.le_of_ble_eq_true rfl) (Or.inr ⟨x9.1, in7x e9 hc, (by first | exact (fun q => h3 q.2.1) | exact (fun q => Int32.not_le.mpr h3 q.2.1) | exact (fun q => h2 ⟨Int32.le_trans q.1.1 q.2.1, q.2.2⟩) | exact (fun q => h1 q.1)), x9.2.2⟩))
    · refine g_iload_n F dX8_smoke_24 rfl 3 rfl ?_
      refine g_iload_n F dX8_smoke_25 rfl 4 rfl ?_
      refine g_icmp_gt F 33 dX8_smoke_26 (by decide) (fun h3 => ?_) (fun h3 => ?_)
      · refine g_iconst F (v := 0) dX8_smoke_33 (by decide) ?_
        refine x_callS F (kX8_demand l hls _) (va_cwS 1 F.1.2.2.2.2 gX8_smoke_X8_demand rfl rfl rfl (by decide +kernel) ⟨Nat.le_of_ble_eq_true rfl, Nat.le_of_ble_eq_true rfl⟩) rfl rfl rfl (Nat.le_of_ble_eq_true rfl) dX8_smoke_34 ⟨Nat.le_of_ble_eq_true rfl, Nat.le_of_ble_eq_true rfl⟩ (fun v9 u9 h9 => absurd rfl h9.1) (fun E9 u9 x9 => KT E9 u9 _ _ _ _ (Nat.le_of_ble_eq_true rfl) (Nat.le_of_ble_eq_true rfl) (Or.inr ⟨x9.1, in7x e9 hc, (by first | exact (fun q => h3 q.2.1) | exact (fun q => Int32.not_le.mpr h3 q.2.1) | exact (fun q => h2 ⟨Int32.le_trans q.1.1 q.2.1, q.2.2⟩) | exact (fun q => h1 q.1)), x9.2.2⟩))
      · refine g_iconst F (v := 1) dX8_smoke_29 (by decide) ?_
        refine g_goto F 34 dX8_smoke_30 (by decide) ?_
        refine x_callS F (kX8_demand l hls _) (va_cwS 1 F.1.2.2.2.2 gX8_smoke_X8_demand rfl rfl rfl (by decide +kernel) ⟨Nat.le_of_ble_eq_true rfl, Nat.le_of_ble_eq_true rfl⟩) rfl rfl rfl (Nat.le_of_ble_eq_true rfl) dX8_smoke_34 ⟨Nat.le_of_ble_eq_true rfl, Nat.le_of_ble_eq_true rfl⟩ (fun v9 u9 h9 => ?_) (fun E9 u9 x9 => absurd x9.2.1 (by decide))
        obtain ⟨-, rfl, e6⟩ := h9
        obtain rfl := e6.symm
        obtain ⟨a, ha_, rfl⟩ := ofk (n := 95) (by decide) h1
        obtain ⟨b, hb_, rfl⟩ := ofk (n := 95) (by decide) h2
        have hab : a ≤ b := (nI_leI (by omega) (by omega)).mp (by first | exact Int32.not_lt.mp h3 | exact h3 | exact Decidable.not_not.mp h3)
        obtain ⟨t, g, ht, ht2, hg, hT, hG⟩ := hTG c hc
        refine g_iload F dX8_smoke_37 5 rfl ?_
        refine g_if_eq F 52 dX8_smoke_39 (by decide) (fun h4 => ?_) (fun h4 => ?_)
        · refine g_aload F dX8_smoke_52 0 rfl ?_
          refine g_iload_n F dX8_smoke_54 rfl 3 rfl ?_
          refine g_iload_n F dX8_smoke_55 rfl 4 rfl ?_
          refine g_callV F (kX0_smokeByTicks l (el12 (sb6 r1).1 hc) (a) (b + 1) (by omega) (by omega) (nI b) (fun i hi => lt_iff (by omega) hi)) (cwV 2 F.1.2.2.2.2 gX8_smoke_X0_smokeByTicks rfl rfl rfl (by decide +kernel) ⟨Nat.le_of_ble_eq_true rfl, Nat.le_of_ble_eq_true rfl⟩) (el12 (sb6 r1).1 hc) (by decide) rfl rfl rfl rfl (Nat.le_of_ble_eq_true rfl) dX8_smoke_56 ⟨Nat.le_of_ble_eq_true rfl, Nat.le_of_ble_eq_true rfl⟩ (g_det ?_)
          refine g_widen (k := rmX8_smoke.cells) (n := rmX8_smoke.slots) (Nat.le_of_ble_eq_true rfl) (Nat.le_of_ble_eq_true rfl) ?_
          exact K _ _ _ _ dX8_smoke_59 rfl ⟨c, a, b, hc, e9, hab, hb_, rfl, rfl, t, g, ⟨ht, ht2, hg, hT, hG⟩, by first | (rw [if_pos h4]; done) | (rw [if_neg h4]; done), rfl⟩
        · refine g_aload F dX8_smoke_42 0 rfl ?_
          refine g_iload_n F dX8_smoke_44 rfl 3 rfl ?_
          refine g_iload_n F dX8_smoke_45 rfl 4 rfl ?_
          refine g_callV F (kX0_smokeByTurns l (el12 (sb6 r1).1 hc) t g a b ht ht2 hg hab hb_ hT hG) (cwV 2 F.1.2.2.2.2 gX8_smoke_X0_smokeByTurns rfl rfl rfl (by decide +kernel) ⟨Nat.le_of_ble_eq_true rfl, Nat.le_of_ble_eq_true rfl⟩) (el12 (sb6 r1).1 hc) (by decide) rfl rfl rfl rfl (Nat.le_of_ble_eq_true rfl) dX8_smoke_46 ⟨Nat.le_of_ble_eq_true rfl, Nat.le_of_ble_eq_true rfl⟩ (g_det ?_)
          refine g_goto F 59 dX8_smoke_49 (by decide) ?_
          refine g_widen (k := rmX8_smoke.cells) (n := rmX8_smoke.slots) (Nat.le_of_ble_eq_true rfl) (Nat.le_of_ble_eq_true rfl) ?_
          exact K _ _ _ _ dX8_smoke_59 rfl ⟨c, a, b, hc, e9, hab, hb_, rfl, rfl, t, g, ⟨ht, ht2, hg, hT, hG⟩, by first | (rw [if_pos h4]; done) | (rw [if_neg h4]; done), rfl⟩
