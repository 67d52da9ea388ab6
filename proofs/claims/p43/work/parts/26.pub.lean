theorem b2i_n0 {p : Prop} [Decidable p] (h : ¬ b2i p = 0) : p := by
  by_cases hp : p
  · exact hp
  · exact absurd (b2i_f hp) h
theorem b2i_0 {p : Prop} [Decidable p] (h : b2i p = 0) : ¬ p := fun hp => absurd ((b2i_t hp).symm.trans h) (by decide)
theorem in7x {x : Int32} {c : Nat} (e : x = nI c) (h : c < 8) : 0 ≤ x ∧ x ≤ 7 := e ▸ in7 h
theorem isR_slot {s : Nat} (h : s < 2) : isR 7 (567 + 71 * s) := el16 (r := 563) r563 h

abbrev rmX8_shadeOf : Room := { frames := 7, cells := 2, slots := 12, locals := 111 }
theorem iX8_shadeOf_8 : ∀ w ∈ u_ws RX8 TX8 6, w ∈ wsX8_shadeOf := by decide +kernel
set_option maxHeartbeats 4000000 in
set_option maxRecDepth 100000 in
theorem kX8_shadeOf (l : Launch) (hls : l.stackTraces = false) {M : Mm} (x y : Int32) : Cx l yX8_shadeOf wsX8_shadeOf rmX8_shadeOf (fun B => [.ref (B + 0), .int x, .int y]) M (fun _ v u => ∃ c, c < 8 ∧ x = nI c ∧ (0 ≤ y ∧ y ≤ 95) ∧ v = some (.int (shC M (chP 1 c) y)) ∧ u = M) (fun E u => E = xI ∧ ¬ (0 ≤ x ∧ x ≤ 7) ∧ u = M ∨ E = xA ∧ (0 ≤ x ∧ x ≤ 7) ∧ ¬ (0 ≤ y ∧ y ≤ 95) ∧ u = M) := by
  refine Cx.ofI (own := RX8) hls (by decide +kernel) rfl rfl (fun B => Nat.le_of_ble_eq_true rfl) ?_
  intro pp ee ss mm aa bb me c9 DD ca B Tl AA QQ F K KT KN
  show G pp l ee rmX8_shadeOf ss mm aa bb me c9 QQ DD ca B Tl AA 4 0 0 M 0 [(0, .ref (B + 0)), (1, .int x), (2, .int y)] []
  refine g_aload_n F dX8_shadeOf_0 rfl 0 rfl ?_
  refine gg8_now F iX8_shadeOf_8 r0 (by decide +kernel) dX8_shadeOf_1 ?_
  refine g_iload_n F dX8_shadeOf_4 rfl 1 rfl ?_
  refine x_callS F (kX8_chimneyOn l hls r1 _) (va_cwS 2 F.1.2.2.2.2 gX8_shadeOf_X8_chimneyOn rfl rfl rfl (by decide +kernel) ⟨Nat.le_of_ble_eq_true rfl, Nat.le_of_ble_eq_true rfl⟩) rfl rfl rfl (Nat.le_of_ble_eq_true rfl) dX8_shadeOf_5 ⟨Nat.le_of_ble_eq_true rfl, Nat.le_of_ble_eq_true rfl⟩ (fun v9 u9 h9 => ?_) (fun E9 u9 x9 => KT E9 u9 _ _ _ _ (Nat.le_of_ble_eq_true rfl) (Nat.le_of_ble_eq_true rfl) (Or.inl x9))
  obtain ⟨c, hc, e9, rfl, e6⟩ := h9
  obtain rfl := e6.symm
  refine g_astore_n F (lv2 := [(3, _), (0, _), (1, _), (2, _)]) dX8_shadeOf_8 rfl (by decide) rfl ?_
  refine g_iload_n F dX8_shadeOf_9 rfl 3 rfl ?_
  refine g_callS F (kX8_isTick l _) (va_cwS 1 F.1.2.2.2.2 gX8_shadeOf_X8_isTick rfl rfl rfl (by decide +kernel) ⟨Nat.le_of_ble_eq_true rfl, Nat.le_of_ble_eq_true rfl⟩) rfl rfl rfl (Nat.le_of_ble_eq_true rfl) dX8_shadeOf_10 ⟨Nat.le_of_ble_eq_true rfl, Nat.le_of_ble_eq_true rfl⟩ (g_det ?_)
  refine x_callS F (kX8_demand l hls _) (va_cwS 1 F.1.2.2.2.2 gX8_shadeOf_X8_demand rfl rfl rfl (by decide +kernel) ⟨Nat.le_of_ble_eq_true rfl, Nat.le_of_ble_eq_true rfl⟩) rfl rfl rfl (Nat.le_of_ble_eq_true rfl) dX8_shadeOf_13 ⟨Nat.le_of_ble_eq_true rfl, Nat.le_of_ble_eq_true rfl⟩ (fun v9 u9 h9 => ?_) (fun E9 u9 x9 => KT E9 u9 _ _ _ _ (Nat.le_of_ble_eq_true rfl) (Nat.le_of_ble_eq_true rfl) (Or.inr ⟨x9.1, in7x e9 hc, b2i_0 x9.2.1, x9.2.2⟩))
  obtain ⟨hd9, rfl, e6⟩ := h9
  obtain rfl := e6.symm
  replace hd9 := b2i_n0 hd9
  refine g_aload_n F dX8_shadeOf_16 rfl 0 rfl ?_
  refine g_iload_n F dX8_shadeOf_17 rfl 3 rfl ?_
  refine g_callV F (kX0_shadeAt l (el12 (sb6 r1).1 hc) _) (cwV 1 F.1.2.2.2.2 gX8_shadeOf_X0_shadeAt rfl rfl rfl (by decide +kernel) ⟨Nat.le_of_ble_eq_true rfl, Nat.le_of_ble_eq_true rfl⟩) (el12 (sb6 r1).1 hc) (by decide) rfl rfl rfl rfl (Nat.le_of_ble_eq_true rfl) dX8_shadeOf_18 ⟨Nat.le_of_ble_eq_true rfl, Nat.le_of_ble_eq_true rfl⟩ (g_det ?_)
  refine g_widen (k := rmX8_shadeOf.cells) (n := rmX8_shadeOf.slots) (Nat.le_of_ble_eq_true rfl) (Nat.le_of_ble_eq_true rfl) ?_
  exact K _ _ _ _ dX8_shadeOf_21 rfl ⟨c, hc, e9, hd9, rfl, rfl⟩

abbrev rmX8_nextStoking : Room := { frames := 7, cells := 2, slots := 12, locals := 111 }
theorem iX8_nextStoking_8 : ∀ w ∈ u_ws RX8 TX8 6, w ∈ wsX8_nextStoking := by decide +kernel
set_option maxHeartbeats 4000000 in
set_option maxRecDepth 100000 in
theorem kX8_nextStoking (l : Launch) (hls : l.stackTraces = false) {M : Mm} (x y : Int32) : Cx l yX8_nextStoking wsX8_nextStoking rmX8_nextStoking (fun B => [.ref (B + 0), .int x, .int y]) M (fun _ v u => ∃ c, c < 8 ∧ x = nI c ∧ (0 ≤ y ∧ y ≤ 95) ∧ v = some (.int (stoC (M (chP 1 c)) y)) ∧ u = M) (fun E u => E = xI ∧ ¬ (0 ≤ x ∧ x ≤ 7) ∧ u = M ∨ E = xA ∧ (0 ≤ x ∧ x ≤ 7) ∧ ¬ (0 ≤ y ∧ y ≤ 95) ∧ u = M) := by
  refine Cx.ofI (own := RX8) hls (by decide +kernel) rfl rfl (fun B => Nat.le_of_ble_eq_true rfl) ?_
  intro pp ee ss mm aa bb me c9 DD ca B Tl AA QQ F K KT KN
  show G pp l ee rmX8_nextStoking ss mm aa bb me c9 QQ DD ca B Tl AA 4 0 0 M 0 [(0, .ref (B + 0)), (1, .int x), (2, .int y)] []
  refine g_aload_n F dX8_nextStoking_0 rfl 0 rfl ?_
  refine gg8_now F iX8_nextStoking_8 r0 (by decide +kernel) dX8_nextStoking_1 ?_
  refine g_iload_n F dX8_nextStoking_4 rfl 1 rfl ?_
  refine x_callS F (kX8_chimneyOn l hls r1 _) (va_cwS 2 F.1.2.2.2.2 gX8_nextStoking_X8_chimneyOn rfl rfl rfl (by decide +kernel) ⟨Nat.le_of_ble_eq_true rfl, Nat.le_of_ble_eq_true rfl⟩) rfl rfl rfl (Nat.le_of_ble_eq_true rfl) dX8_nextStoking_5 ⟨Nat.le_of_ble_eq_true rfl, Nat.le_of_ble_eq_true rfl⟩ (fun v9 u9 h9 => ?_) (fun E9 u9 x9 => KT E9 u9 _ _ _ _ (Nat.le_of_ble_eq_true rfl) (Nat.le_of_ble_eq_true rfl) (Or.inl x9))
  obtain ⟨c, hc, e9, rfl, e6⟩ := h9
  obtain rfl := e6.symm
  refine g_astore_n F (lv2 := [(3, _), (0, _), (1, _), (2, _)]) dX8_nextStoking_8 rfl (by decide) rfl ?_
  refine g_iload_n F dX8_nextStoking_9 rfl 3 rfl ?_
  refine g_callS F (kX8_isTick l _) (va_cwS 1 F.1.2.2.2.2 gX8_nextStoking_X8_isTick rfl rfl rfl (by decide +kernel) ⟨Nat.le_of_ble_eq_true rfl, Nat.le_of_ble_eq_true rfl⟩) rfl rfl rfl (Nat.le_of_ble_eq_true rfl) dX8_nextStoking_10 ⟨Nat.le_of_ble_eq_true rfl, Nat.le_of_ble_eq_true rfl⟩ (g_det ?_)
  refine x_callS F (kX8_demand l hls _) (va_cwS 1 F.1.2.2.2.2 gX8_nextStoking_X8_demand rfl rfl rfl (by decide +kernel) ⟨Nat.le_of_ble_eq_true rfl, Nat.le_of_ble_eq_true rfl⟩) rfl rfl rfl (Nat.le_of_ble_eq_true rfl) dX8_nextStoking_13 ⟨Nat.le_of_ble_eq_true rfl, Nat.le_of_ble_eq_true rfl⟩ (fun v9 u9 h9 => ?_) (fun E9 u9 x9 => KT E9 u9 _ _ _ _ (Nat.le_of_ble_eq_true rfl) (Nat.le_of_ble_eq_true rfl) (Or.inr ⟨x9.1, in7x e9 hc, b2i_0 x9.2.1, x9.2.2⟩))
  obtain ⟨hd9, rfl, e6⟩ := h9
  obtain rfl := e6.symm
  replace hd9 := b2i_n0 hd9
  refine g_aload_n F dX8_nextStoking_16 rfl 0 rfl ?_
  refine g_iload_n F dX8_nextStoking_17 rfl 3 rfl ?_
  refine g_callV F (kX0_stokedFrom l (el12 (sb6 r1).1 hc) _) (cwV 1 F.1.2.2.2.2 gX8_nextStoking_X0_stokedFrom rfl rfl rfl (by decide +kernel) ⟨Nat.le_of_ble_eq_true rfl, Nat.le_of_ble_eq_true rfl⟩) (el12 (sb6 r1).1 hc) (by decide) rfl rfl rfl rfl (Nat.le_of_ble_eq_true rfl) dX8_nextStoking_18 ⟨Nat.le_of_ble_eq_true rfl, Nat.le_of_ble_eq_true rfl⟩ (g_det ?_)
  refine g_widen (k := rmX8_nextStoking.cells) (n := rmX8_nextStoking.slots) (Nat.le_of_ble_eq_true rfl) (Nat.le_of_ble_eq_true rfl) ?_
  exact K _ _ _ _ dX8_nextStoking_21 rfl ⟨c, hc, e9, hd9, rfl, rfl⟩

abbrev rmX8_readingOf : Room := { frames := 7, cells := 2, slots := 12, locals := 111 }
theorem iX8_readingOf_0 : ∀ w ∈ u_ws RX0 TX0 8, w ∈ wsX8_readingOf := by decide +kernel
theorem iX8_readingOf_8 : ∀ w ∈ u_ws RX8 TX8 6, w ∈ wsX8_readingOf := by decide +kernel
set_option maxHeartbeats 4000000 in
set_option maxRecDepth 100000 in
theorem kX8_readingOf (l : Launch) (hls : l.stackTraces = false) {M : Mm} (x y : Int32) : Cx l yX8_readingOf wsX8_readingOf rmX8_readingOf (fun B => [.ref (B + 0), .int x, .int y]) M (fun _ v u => ∃ c, c < 8 ∧ x = nI c ∧ (0 ≤ y ∧ y ≤ 95) ∧ v = some (.int (atF (M (chP 1 c + 1 + 1)) y)) ∧ u = M) (fun E u => E = xI ∧ ¬ (0 ≤ x ∧ x ≤ 7) ∧ u = M ∨ E = xA ∧ (0 ≤ x ∧ x ≤ 7) ∧ ¬ (0 ≤ y ∧ y ≤ 95) ∧ u = M) := by
  refine Cx.ofI (own := RX8) hls (by decide +kernel) rfl rfl (fun B => Nat.le_of_ble_eq_true rfl) ?_
  intro pp ee ss mm aa bb me c9 DD ca B Tl AA QQ F K KT KN
  show G pp l ee rmX8_readingOf ss mm aa bb me c9 QQ DD ca B Tl AA 4 0 0 M 0 [(0, .ref (B + 0)), (1, .int x), (2, .int y)] []
  refine g_aload_n F dX8_readingOf_0 rfl 0 rfl ?_
  refine gg8_now F iX8_readingOf_8 r0 (by decide +kernel) dX8_readingOf_1 ?_
  refine g_iload_n F dX8_readingOf_4 rfl 1 rfl ?_
  refine x_callS F (kX8_chimneyOn l hls r1 _) (va_cwS 2 F.1.2.2.2.2 gX8_readingOf_X8_chimneyOn rfl rfl rfl (by decide +kernel) ⟨Nat.le_of_ble_eq_true rfl, Nat.le_of_ble_eq_true rfl⟩) rfl rfl rfl (Nat.le_of_ble_eq_true rfl) dX8_readingOf_5 ⟨Nat.le_of_ble_eq_true rfl, Nat.le_of_ble_eq_true rfl⟩ (fun v9 u9 h9 => ?_) (fun E9 u9 x9 => KT E9 u9 _ _ _ _ (Nat.le_of_ble_eq_true rfl) (Nat.le_of_ble_eq_true rfl) (Or.inl x9))
  obtain ⟨c, hc, e9, rfl, e6⟩ := h9
  obtain rfl := e6.symm
  refine g_astore_n F (lv2 := [(3, _), (0, _), (1, _), (2, _)]) dX8_readingOf_8 rfl (by decide) rfl ?_
  refine g_iload_n F dX8_readingOf_9 rfl 3 rfl ?_
  refine g_callS F (kX8_isTick l _) (va_cwS 1 F.1.2.2.2.2 gX8_readingOf_X8_isTick rfl rfl rfl (by decide +kernel) ⟨Nat.le_of_ble_eq_true rfl, Nat.le_of_ble_eq_true rfl⟩) rfl rfl rfl (Nat.le_of_ble_eq_true rfl) dX8_readingOf_10 ⟨Nat.le_of_ble_eq_true rfl, Nat.le_of_ble_eq_true rfl⟩ (g_det ?_)
  refine x_callS F (kX8_demand l hls _) (va_cwS 1 F.1.2.2.2.2 gX8_readingOf_X8_demand rfl rfl rfl (by decide +kernel) ⟨Nat.le_of_ble_eq_true rfl, Nat.le_of_ble_eq_true rfl⟩) rfl rfl rfl (Nat.le_of_ble_eq_true rfl) dX8_readingOf_13 ⟨Nat.le_of_ble_eq_true rfl, Nat.le_of_ble_eq_true rfl⟩ (fun v9 u9 h9 => ?_) (fun E9 u9 x9 => KT E9 u9 _ _ _ _ (Nat.le_of_ble_eq_true rfl) (Nat.le_of_ble_eq_true rfl) (Or.inr ⟨x9.1, in7x e9 hc, b2i_0 x9.2.1, x9.2.2⟩))
  obtain ⟨hd9, rfl, e6⟩ := h9
  obtain rfl := e6.symm
  replace hd9 := b2i_n0 hd9
  refine g_aload_n F dX8_readingOf_16 rfl 0 rfl ?_
  refine gg0_readings F iX8_readingOf_0 (el12 (sb6 r1).1 hc) (by decide +kernel) dX8_readingOf_17 ?_
  refine g_iload_n F dX8_readingOf_20 rfl 3 rfl ?_
  refine g_callV F (kX1_at l (sb0 (el12 (sb6 r1).1 hc)).1 _) (cwV 1 F.1.2.2.2.2 gX8_readingOf_X1_at rfl rfl rfl (by decide +kernel) ⟨Nat.le_of_ble_eq_true rfl, Nat.le_of_ble_eq_true rfl⟩) (sb0 (el12 (sb6 r1).1 hc)).1 (by decide) rfl rfl rfl rfl (Nat.le_of_ble_eq_true rfl) dX8_readingOf_21 ⟨Nat.le_of_ble_eq_true rfl, Nat.le_of_ble_eq_true rfl⟩ (g_det ?_)
  refine g_widen (k := rmX8_readingOf.cells) (n := rmX8_readingOf.slots) (Nat.le_of_ble_eq_true rfl) (Nat.le_of_ble_eq_true rfl) ?_
  exact K _ _ _ _ dX8_readingOf_24 rfl ⟨c, hc, e9, hd9, rfl, rfl⟩

abbrev rmX8_readingsFrom : Room := { frames := 7, cells := 2, slots := 12, locals := 111 }
theorem iX8_readingsFrom_0 : ∀ w ∈ u_ws RX0 TX0 8, w ∈ wsX8_readingsFrom := by decide +kernel
theorem iX8_readingsFrom_8 : ∀ w ∈ u_ws RX8 TX8 6, w ∈ wsX8_readingsFrom := by decide +kernel
set_option maxHeartbeats 4000000 in
set_option maxRecDepth 100000 in
theorem kX8_readingsFrom (l : Launch) (hls : l.stackTraces = false) {M : Mm} (x y : Int32) : Cx l yX8_readingsFrom wsX8_readingsFrom rmX8_readingsFrom (fun B => [.ref (B + 0), .int x, .int y]) M (fun _ v u => ∃ c, c < 8 ∧ x = nI c ∧ (0 ≤ y ∧ y ≤ 5) ∧ v = some (.int (cntF (M (chP 1 c + 1 + 1)) y 96)) ∧ u = M) (fun E u => E = xI ∧ ¬ (0 ≤ x ∧ x ≤ 7) ∧ u = M ∨ E = xA ∧ (0 ≤ x ∧ x ≤ 7) ∧ ¬ (0 ≤ y ∧ y ≤ 5) ∧ u = M) := by
  refine Cx.ofI (own := RX8) hls (by decide +kernel) rfl rfl (fun B => Nat.le_of_ble_eq_true rfl) ?_
  intro pp ee ss mm aa bb me c9 DD ca B Tl AA QQ F K KT KN
  show G pp l ee rmX8_readingsFrom ss mm aa bb me c9 QQ DD ca B Tl AA 4 0 0 M 0 [(0, .ref (B + 0)), (1, .int x), (2, .int y)] []
  refine g_aload_n F dX8_readingsFrom_0 rfl 0 rfl ?_
  refine gg8_now F iX8_readingsFrom_8 r0 (by decide +kernel) dX8_readingsFrom_1 ?_
  refine g_iload_n F dX8_readingsFrom_4 rfl 1 rfl ?_
  refine x_callS F (kX8_chimneyOn l hls r1 _) (va_cwS 2 F.1.2.2.2.2 gX8_readingsFrom_X8_chimneyOn rfl rfl rfl (by decide +kernel) ⟨Nat.le_of_ble_eq_true rfl, Nat.le_of_ble_eq_true rfl⟩) rfl rfl rfl (Nat.le_of_ble_eq_true rfl) dX8_readingsFrom_5 ⟨Nat.le_of_ble_eq_true rfl, Nat.le_of_ble_eq_true rfl⟩ (fun v9 u9 h9 => ?_) (fun E9 u9 x9 => KT E9 u9 _ _ _ _ (Nat.le_of_ble_eq_true rfl) (Nat.le_of_ble_eq_true rfl) (Or.inl x9))
  obtain ⟨c, hc, e9, rfl, e6⟩ := h9
  obtain rfl := e6.symm
  refine g_astore_n F (lv2 := [(3, _), (0, _), (1, _), (2, _)]) dX8_readingsFrom_8 rfl (by decide) rfl ?_
  refine g_iload_n F dX8_readingsFrom_9 rfl 3 rfl ?_
  refine g_iconst F (v := 0) dX8_readingsFrom_10 (by decide) ?_
  refine g_iconst F (v := 5) dX8_readingsFrom_11 (by decide) ?_
  refine g_callS F (kX8_isWithin l _ _ _) (va_cwS 3 F.1.2.2.2.2 gX8_readingsFrom_X8_isWithin rfl rfl rfl (by decide +kernel) ⟨Nat.le_of_ble_eq_true rfl, Nat.le_of_ble_eq_true rfl⟩) rfl rfl rfl (Nat.le_of_ble_eq_true rfl) dX8_readingsFrom_12 ⟨Nat.le_of_ble_eq_true rfl, Nat.le_of_ble_eq_true rfl⟩ (g_det ?_)
  refine x_callS F (kX8_demand l hls _) (va_cwS 1 F.1.2.2.2.2 gX8_readingsFrom_X8_demand rfl rfl rfl (by decide +kernel) ⟨Nat.le_of_ble_eq_true rfl, Nat.le_of_ble_eq_true rfl⟩) rfl rfl rfl (Nat.le_of_ble_eq_true rfl) dX8_readingsFrom_15 ⟨Nat.le_of_ble_eq_true rfl, Nat.le_of_ble_eq_true rfl⟩ (fun v9 u9 h9 => ?_) (fun E9 u9 x9 => KT E9 u9 _ _ _ _ (Nat.le_of_ble_eq_true rfl) (Nat.le_of_ble_eq_true rfl) (Or.inr ⟨x9.1, in7x e9 hc, b2i_0 x9.2.1, x9.2.2⟩))
  obtain ⟨hd9, rfl, e6⟩ := h9
  obtain rfl := e6.symm
  replace hd9 := b2i_n0 hd9
  refine g_aload_n F dX8_readingsFrom_18 rfl 0 rfl ?_
  refine gg0_readings F iX8_readingsFrom_0 (el12 (sb6 r1).1 hc) (by decide +kernel) dX8_readingsFrom_19 ?_
  refine g_iload_n F dX8_readingsFrom_22 rfl 3 rfl ?_
  refine g_callV F (kX1_countFrom l (sb0 (el12 (sb6 r1).1 hc)).1 _) (cwV 1 F.1.2.2.2.2 gX8_readingsFrom_X1_countFrom rfl rfl rfl (by decide +kernel) ⟨Nat.le_of_ble_eq_true rfl, Nat.le_of_ble_eq_true rfl⟩) (sb0 (el12 (sb6 r1).1 hc)).1 (by decide) rfl rfl rfl rfl (Nat.le_of_ble_eq_true rfl) dX8_readingsFrom_23 ⟨Nat.le_of_ble_eq_true rfl, Nat.le_of_ble_eq_true rfl⟩ (g_det ?_)
  refine g_widen (k := rmX8_readingsFrom.cells) (n := rmX8_readingsFrom.slots) (Nat.le_of_ble_eq_true rfl) (Nat.le_of_ble_eq_true rfl) ?_
  exact K _ _ _ _ dX8_readingsFrom_26 rfl ⟨c, hc, e9, hd9, rfl, rfl⟩

abbrev rmX8_longestRow : Room := { frames := 7, cells := 2, slots := 12, locals := 111 }
theorem iX8_longestRow_0 : ∀ w ∈ u_ws RX0 TX0 8, w ∈ wsX8_longestRow := by decide +kernel
theorem iX8_longestRow_8 : ∀ w ∈ u_ws RX8 TX8 6, w ∈ wsX8_longestRow := by decide +kernel
set_option maxHeartbeats 4000000 in
set_option maxRecDepth 100000 in
theorem kX8_longestRow (l : Launch) (hls : l.stackTraces = false) {M : Mm} (x y z : Int32) : Cx l yX8_longestRow wsX8_longestRow rmX8_longestRow (fun B => [.ref (B + 0), .int x, .int y, .int z]) M (fun _ v u => ∃ c, c < 8 ∧ x = nI c ∧ (0 ≤ y ∧ y ≤ 5) ∧ v = some (.int (if z = 0 then lngF (M (chP 1 c + 1 + 1)) y 96 else lngR (M (chP 1 c + 1 + 1)) y 96)) ∧ u = M) (fun E u => E = xI ∧ ¬ (0 ≤ x ∧ x ≤ 7) ∧ u = M ∨ E = xA ∧ (0 ≤ x ∧ x ≤ 7) ∧ ¬ (0 ≤ y ∧ y ≤ 5) ∧ u = M) := by
  refine Cx.ofI (own := RX8) hls (by decide +kernel) rfl rfl (fun B => Nat.le_of_ble_eq_true rfl) ?_
  intro pp ee ss mm aa bb me c9 DD ca B Tl AA QQ F K KT KN
  show G pp l ee rmX8_longestRow ss mm aa bb me c9 QQ DD ca B Tl AA 5 0 0 M 0 [(0, .ref (B + 0)), (1, .int x), (2, .int y), (3, .int z)] []
  refine g_aload_n F dX8_longestRow_0 rfl 0 rfl ?_
  refine gg8_now F iX8_longestRow_8 r0 (by decide +kernel) dX8_longestRow_1 ?_
  refine g_iload_n F dX8_longestRow_4 rfl 1 rfl ?_
  refine x_callS F (kX8_chimneyOn l hls r1 _) (va_cwS 2 F.1.2.2.2.2 gX8_longestRow_X8_chimneyOn rfl rfl rfl (by decide +kernel) ⟨Nat.le_of_ble_eq_true rfl, Nat.le_of_ble_eq_true rfl⟩) rfl rfl rfl (Nat.le_of_ble_eq_true rfl) dX8_longestRow_5 ⟨Nat.le_of_ble_eq_true rfl, Nat.le_of_ble_eq_true rfl⟩ (fun v9 u9 h9 => ?_) (fun E9 u9 x9 => KT E9 u9 _ _ _ _ (Nat.le_of_ble_eq_true rfl) (Nat.le_of_ble_eq_true rfl) (Or.inl x9))
  obtain ⟨c, hc, e9, rfl, e6⟩ := h9
  obtain rfl := e6.symm
  refine g_astore F (lv2 := [(4, _), (0, _), (1, _), (2, _), (3, _)]) dX8_longestRow_8 (by decide) rfl ?_
  refine g_iload_n F dX8_longestRow_10 rfl 3 rfl ?_
  refine g_iconst F (v := 0) dX8_longestRow_11 (by decide) ?_
  refine g_iconst F (v := 5) dX8_longestRow_12 (by decide) ?_
  refine g_callS F (kX8_isWithin l _ _ _) (va_cwS 3 F.1.2.2.2.2 gX8_longestRow_X8_isWithin rfl rfl rfl (by decide +kernel) ⟨Nat.le_of_ble_eq_true rfl, Nat.le_of_ble_eq_true rfl⟩) rfl rfl rfl (Nat.le_of_ble_eq_true rfl) dX8_longestRow_13 ⟨Nat.le_of_ble_eq_true rfl, Nat.le_of_ble_eq_true rfl⟩ (g_det ?_)
  refine x_callS F (kX8_demand l hls _) (va_cwS 1 F.1.2.2.2.2 gX8_longestRow_X8_demand rfl rfl rfl (by decide +kernel) ⟨Nat.le_of_ble_eq_true rfl, Nat.le_of_ble_eq_true rfl⟩) rfl rfl rfl (Nat.le_of_ble_eq_true rfl) dX8_longestRow_16 ⟨Nat.le_of_ble_eq_true rfl, Nat.le_of_ble_eq_true rfl⟩ (fun v9 u9 h9 => ?_) (fun E9 u9 x9 => KT E9 u9 _ _ _ _ (Nat.le_of_ble_eq_true rfl) (Nat.le_of_ble_eq_true rfl) (Or.inr ⟨x9.1, in7x e9 hc, b2i_0 x9.2.1, x9.2.2⟩))
  obtain ⟨hd9, rfl, e6⟩ := h9
  obtain rfl := e6.symm
  replace hd9 := b2i_n0 hd9
  refine g_iload_n F dX8_longestRow_19 rfl 4 rfl ?_
  refine g_if_eq F 35 dX8_longestRow_20 (by decide) (fun h1 => ?_) (fun h1 => ?_)
  · refine g_aload F dX8_longestRow_35 0 rfl ?_
    refine gg0_readings F iX8_longestRow_0 (el12 (sb6 r1).1 hc) (by decide +kernel) dX8_longestRow_37 ?_
    refine g_iload_n F dX8_longestRow_40 rfl 3 rfl ?_
    refine g_callV F (kX1_longestByTicks l (sb0 (el12 (sb6 r1).1 hc)).1 _) (cwV 1 F.1.2.2.2.2 gX8_longestRow_X1_longestByTicks rfl rfl rfl (by decide +kernel) ⟨Nat.le_of_ble_eq_true rfl, Nat.le_of_ble_eq_true rfl⟩) (sb0 (el12 (sb6 r1).1 hc)).1 (by decide) rfl rfl rfl rfl (Nat.le_of_ble_eq_true rfl) dX8_longestRow_41 ⟨Nat.le_of_ble_eq_true rfl, Nat.le_of_ble_eq_true rfl⟩ (g_det ?_)
    refine g_widen (k := rmX8_longestRow.cells) (n := rmX8_longestRow.slots) (Nat.le_of_ble_eq_true rfl) (Nat.le_of_ble_eq_true rfl) ?_
    exact K _ _ _ _ dX8_longestRow_44 rfl ⟨c, hc, e9, hd9, by first | (rw [if_pos h1]; done) | (rw [if_neg h1]; done), rfl⟩
  · refine g_aload F dX8_longestRow_23 0 rfl ?_
    refine gg0_readings F iX8_longestRow_0 (el12 (sb6 r1).1 hc) (by decide +kernel) dX8_longestRow_25 ?_
    refine g_iload_n F dX8_longestRow_28 rfl 3 rfl ?_
    refine g_callV F (kX1_longestByRows l (sb0 (el12 (sb6 r1).1 hc)).1 _) (cwV 1 F.1.2.2.2.2 gX8_longestRow_X1_longestByRows rfl rfl rfl (by decide +kernel) ⟨Nat.le_of_ble_eq_true rfl, Nat.le_of_ble_eq_true rfl⟩) (sb0 (el12 (sb6 r1).1 hc)).1 (by decide) rfl rfl rfl rfl (Nat.le_of_ble_eq_true rfl) dX8_longestRow_29 ⟨Nat.le_of_ble_eq_true rfl, Nat.le_of_ble_eq_true rfl⟩ (g_det ?_)
    refine g_goto F 44 dX8_longestRow_32 (by decide) ?_
    refine g_widen (k := rmX8_longestRow.cells) (n := rmX8_longestRow.slots) (Nat.le_of_ble_eq_true rfl) (Nat.le_of_ble_eq_true rfl) ?_
    exact K _ _ _ _ dX8_longestRow_44 rfl ⟨c, hc, e9, hd9, by first | (rw [if_pos h1]; done) | (rw [if_neg h1]; done), rfl⟩

abbrev rmX8_greyOf : Room := { frames := 7, cells := 1, slots := 6, locals := 110 }
theorem iX8_greyOf_8 : ∀ w ∈ u_ws RX8 TX8 6, w ∈ wsX8_greyOf := by decide +kernel
set_option maxHeartbeats 4000000 in
set_option maxRecDepth 100000 in
theorem kX8_greyOf (l : Launch) (hls : l.stackTraces = false) {M : Mm} (x : Int32) : Cx l yX8_greyOf wsX8_greyOf rmX8_greyOf (fun B => [.ref (B + 0), .int x]) M (fun _ v u => (0 ≤ x ∧ x ≤ 23) ∧ v = some (.int (gyF (M (1 + 4)) x)) ∧ u = M) (fun E u => E = xA ∧ ¬ (0 ≤ x ∧ x ≤ 23) ∧ u = M) := by
  refine Cx.ofI (own := RX8) hls (by decide +kernel) rfl rfl (fun B => Nat.le_of_ble_eq_true rfl) ?_
  intro pp ee ss mm aa bb me c9 DD ca B Tl AA QQ F K KT KN
  show G pp l ee rmX8_greyOf ss mm aa bb me c9 QQ DD ca B Tl AA 2 0 0 M 0 [(0, .ref (B + 0)), (1, .int x)] []
  refine g_iload_n F dX8_greyOf_0 rfl 1 rfl ?_
  refine g_iconst F (v := 0) dX8_greyOf_1 (by decide) ?_
  refine g_bipush F (v := 23) dX8_greyOf_2 (by decide +kernel) ?_
  refine g_callS F (kX8_isWithin l _ _ _) (va_cwS 3 F.1.2.2.2.2 gX8_greyOf_X8_isWithin rfl rfl rfl (by decide +kernel) ⟨Nat.le_of_ble_eq_true rfl, Nat.le_of_ble_eq_true rfl⟩) rfl rfl rfl (Nat.le_of_ble_eq_true rfl) dX8_greyOf_4 ⟨Nat.le_of_ble_eq_true rfl, Nat.le_of_ble_eq_true rfl⟩ (g_det ?_)
  refine x_callS F (kX8_demand l hls _) (va_cwS 1 F.1.2.2.2.2 gX8_greyOf_X8_demand rfl rfl rfl (by decide +kernel) ⟨Nat.le_of_ble_eq_true rfl, Nat.le_of_ble_eq_true rfl⟩) rfl rfl rfl (Nat.le_of_ble_eq_true rfl) dX8_greyOf_7 ⟨Nat.le_of_ble_eq_true rfl, Nat.le_of_ble_eq_true rfl⟩ (fun v9 u9 h9 => ?_) (fun E9 u9 x9 => KT E9 u9 _ _ _ _ (Nat.le_of_ble_eq_true rfl) (Nat.le_of_ble_eq_true rfl) ⟨x9.1, b2i_0 x9.2.1, x9.2.2⟩)
  obtain ⟨hd9, rfl, e6⟩ := h9
  obtain rfl := e6.symm
  replace hd9 := b2i_n0 hd9
  refine g_aload_n F dX8_greyOf_10 rfl 0 rfl ?_
  refine gg8_now F iX8_greyOf_8 r0 (by decide +kernel) dX8_greyOf_11 ?_
  refine g_iload_n F dX8_greyOf_14 rfl 1 rfl ?_
  refine g_callV F (kX6_greyInHour l r1 _) (cwV 1 F.1.2.2.2.2 gX8_greyOf_X6_greyInHour rfl rfl rfl (by decide +kernel) ⟨Nat.le_of_ble_eq_true rfl, Nat.le_of_ble_eq_true rfl⟩) r1 (by decide) rfl rfl rfl rfl (Nat.le_of_ble_eq_true rfl) dX8_greyOf_15 ⟨Nat.le_of_ble_eq_true rfl, Nat.le_of_ble_eq_true rfl⟩ (g_det ?_)
  refine g_widen (k := rmX8_greyOf.cells) (n := rmX8_greyOf.slots) (Nat.le_of_ble_eq_true rfl) (Nat.le_of_ble_eq_true rfl) ?_
  exact K _ _ _ _ dX8_greyOf_18 rfl ⟨hd9, rfl, rfl⟩

abbrev rmX8_time : Room := { frames := 0, cells := 0, slots := 0, locals := 0 }
theorem iX8_time_6 : ∀ w ∈ u_ws RX6 TX6 10, w ∈ wsX8_time := by decide +kernel
theorem iX8_time_8 : ∀ w ∈ u_ws RX8 TX8 6, w ∈ wsX8_time := by decide +kernel
set_option maxHeartbeats 4000000 in
set_option maxRecDepth 100000 in
theorem kX8_time (l : Launch) {M : Mm}  : Ct l yX8_time wsX8_time rmX8_time (fun B => [.ref (B + 0)]) M (fun _ v u => v = some (.int (96 * M 1 8 + M 1 9)) ∧ u = M) := by
  refine Ct.ofI (own := RX8) (by decide +kernel) rfl rfl (fun B => Nat.le_of_ble_eq_true rfl) ?_
  intro pp ee ss mm aa bb me c9 DD ca B Tl AA QQ F K
  show G pp l ee rmX8_time ss mm aa bb me c9 QQ DD ca B Tl AA 1 0 0 M 0 [(0, .ref (B + 0))] []
  refine g_bipush F (v := 96) dX8_time_0 (by decide +kernel) ?_
  refine g_aload_n F dX8_time_2 rfl 0 rfl ?_
  refine gg8_now F iX8_time_8 r0 (by decide +kernel) dX8_time_3 ?_
  refine gg6_day F iX8_time_6 r1 (by decide +kernel) dX8_time_6 ?_
  refine g_imul F dX8_time_9 ?_
  refine g_aload_n F dX8_time_10 rfl 0 rfl ?_
  refine gg8_now F iX8_time_8 r0 (by decide +kernel) dX8_time_11 ?_
  refine gg6_tick F iX8_time_6 r1 (by decide +kernel) dX8_time_14 ?_
  refine g_iadd F dX8_time_17 ?_
  exact K _ _ _ _ dX8_time_18 rfl ⟨rfl, rfl⟩

abbrev rmX8_notices : Room := { frames := 0, cells := 0, slots := 0, locals := 0 }
theorem iX8_notices_6 : ∀ w ∈ u_ws RX6 TX6 10, w ∈ wsX8_notices := by decide +kernel
theorem iX8_notices_8 : ∀ w ∈ u_ws RX8 TX8 6, w ∈ wsX8_notices := by decide +kernel
set_option maxHeartbeats 4000000 in
set_option maxRecDepth 100000 in
theorem kX8_notices (l : Launch) {M : Mm}  : Ct l yX8_notices wsX8_notices rmX8_notices (fun B => [.ref (B + 0)]) M (fun _ v u => v = some (.int (M 1 5)) ∧ u = M) := by
  refine Ct.ofI (own := RX8) (by decide +kernel) rfl rfl (fun B => Nat.le_of_ble_eq_true rfl) ?_
  intro pp ee ss mm aa bb me c9 DD ca B Tl AA QQ F K
  show G pp l ee rmX8_notices ss mm aa bb me c9 QQ DD ca B Tl AA 1 0 0 M 0 [(0, .ref (B + 0))] []
  refine g_aload_n F dX8_notices_0 rfl 0 rfl ?_
  refine gg8_now F iX8_notices_8 r0 (by decide +kernel) dX8_notices_1 ?_
  refine gg6_noticeCount F iX8_notices_6 r1 (by decide +kernel) dX8_notices_4 ?_
  exact K _ _ _ _ dX8_notices_7 rfl ⟨rfl, rfl⟩





abbrev rmX8_watchedBy : Room := { frames := 7, cells := 1, slots := 6, locals := 111 }
theorem iX8_watchedBy_4 : ∀ w ∈ u_ws RX4 TX4 5, w ∈ wsX8_watchedBy := by decide +kernel
set_option maxHeartbeats 4000000 in
set_option maxRecDepth 100000 in
theorem kX8_watchedBy (l : Launch) (hls : l.stackTraces = false) {M : Mm} (x : Int32) : Cx l yX8_watchedBy wsX8_watchedBy rmX8_watchedBy (fun B => [.ref (B + 0), .int x]) M (fun _ v u => ∃ k, k < 3 ∧ x = nI k ∧ v = some (.int (M (obP 1 k) 0)) ∧ u = M) (fun E u => E = xI ∧ ¬ (0 ≤ x ∧ x ≤ 2) ∧ u = M) := by
  refine Cx.ofI (own := RX8) hls (by decide +kernel) rfl rfl (fun B => Nat.le_of_ble_eq_true rfl) ?_
  intro pp ee ss mm aa bb me c9 DD ca B Tl AA QQ F K KT KN
  show G pp l ee rmX8_watchedBy ss mm aa bb me c9 QQ DD ca B Tl AA 2 0 0 M 0 [(0, .ref (B + 0)), (1, .int x)] []
  refine g_aload_n F dX8_watchedBy_0 rfl 0 rfl ?_
  refine g_iload_n F dX8_watchedBy_1 rfl 1 rfl ?_
  refine x_callV F (kX8_observerNow l hls r0 _) (cwV 1 F.1.2.2.2.2 gX8_watchedBy_X8_observerNow rfl rfl rfl (by decide +kernel) ⟨Nat.le_of_ble_eq_true rfl, Nat.le_of_ble_eq_true rfl⟩) r0 (by decide) rfl rfl rfl rfl (Nat.le_of_ble_eq_true rfl) dX8_watchedBy_2 ⟨Nat.le_of_ble_eq_true rfl, Nat.le_of_ble_eq_true rfl⟩ (fun v9 u9 h9 => ?_) (fun E9 u9 x9 => KT E9 u9 _ _ _ _ (Nat.le_of_ble_eq_true rfl) (Nat.le_of_ble_eq_true rfl) x9)
  obtain ⟨k, hk, e8, rfl, e6⟩ := h9
  obtain rfl := e6.symm
  refine gg4_watched F iX8_watchedBy_4 (el14 (sb6 r1).2.1 hk) (by decide +kernel) dX8_watchedBy_5 ?_
  refine g_widen (k := rmX8_watchedBy.cells) (n := rmX8_watchedBy.slots) (Nat.le_of_ble_eq_true rfl) (Nat.le_of_ble_eq_true rfl) ?_
  exact K _ _ _ _ dX8_watchedBy_8 rfl ⟨k, hk, e8, rfl, rfl⟩

abbrev rmX8_tirednessOf : Room := { frames := 7, cells := 1, slots := 6, locals := 111 }
theorem iX8_tirednessOf_4 : ∀ w ∈ u_ws RX4 TX4 5, w ∈ wsX8_tirednessOf := by decide +kernel
set_option maxHeartbeats 4000000 in
set_option maxRecDepth 100000 in
theorem kX8_tirednessOf (l : Launch) (hls : l.stackTraces = false) {M : Mm} (x : Int32) : Cx l yX8_tirednessOf wsX8_tirednessOf rmX8_tirednessOf (fun B => [.ref (B + 0), .int x]) M (fun _ v u => ∃ k, k < 3 ∧ x = nI k ∧ v = some (.int (M (obP 1 k) 2)) ∧ u = M) (fun E u => E = xI ∧ ¬ (0 ≤ x ∧ x ≤ 2) ∧ u = M) := by
  refine Cx.ofI (own := RX8) hls (by decide +kernel) rfl rfl (fun B => Nat.le_of_ble_eq_true rfl) ?_
  intro pp ee ss mm aa bb me c9 DD ca B Tl AA QQ F K KT KN
  show G pp l ee rmX8_tirednessOf ss mm aa bb me c9 QQ DD ca B Tl AA 2 0 0 M 0 [(0, .ref (B + 0)), (1, .int x)] []
  refine g_aload_n F dX8_tirednessOf_0 rfl 0 rfl ?_
  refine g_iload_n F dX8_tirednessOf_1 rfl 1 rfl ?_
  refine x_callV F (kX8_observerNow l hls r0 _) (cwV 1 F.1.2.2.2.2 gX8_tirednessOf_X8_observerNow rfl rfl rfl (by decide +kernel) ⟨Nat.le_of_ble_eq_true rfl, Nat.le_of_ble_eq_true rfl⟩) r0 (by decide) rfl rfl rfl rfl (Nat.le_of_ble_eq_true rfl) dX8_tirednessOf_2 ⟨Nat.le_of_ble_eq_true rfl, Nat.le_of_ble_eq_true rfl⟩ (fun v9 u9 h9 => ?_) (fun E9 u9 x9 => KT E9 u9 _ _ _ _ (Nat.le_of_ble_eq_true rfl) (Nat.le_of_ble_eq_true rfl) x9)
  obtain ⟨k, hk, e8, rfl, e6⟩ := h9
  obtain rfl := e6.symm
  refine gg4_tiredness F iX8_tirednessOf_4 (el14 (sb6 r1).2.1 hk) (by decide +kernel) dX8_tirednessOf_5 ?_
  refine g_widen (k := rmX8_tirednessOf.cells) (n := rmX8_tirednessOf.slots) (Nat.le_of_ble_eq_true rfl) (Nat.le_of_ble_eq_true rfl) ?_
  exact K _ _ _ _ dX8_tirednessOf_8 rfl ⟨k, hk, e8, rfl, rfl⟩

abbrev rmX8_errorsOf : Room := { frames := 7, cells := 1, slots := 6, locals := 111 }
theorem iX8_errorsOf_4 : ∀ w ∈ u_ws RX4 TX4 5, w ∈ wsX8_errorsOf := by decide +kernel
set_option maxHeartbeats 4000000 in
set_option maxRecDepth 100000 in
theorem kX8_errorsOf (l : Launch) (hls : l.stackTraces = false) {M : Mm} (x : Int32) : Cx l yX8_errorsOf wsX8_errorsOf rmX8_errorsOf (fun B => [.ref (B + 0), .int x]) M (fun _ v u => ∃ k, k < 3 ∧ x = nI k ∧ v = some (.int (M (obP 1 k) 3)) ∧ u = M) (fun E u => E = xI ∧ ¬ (0 ≤ x ∧ x ≤ 2) ∧ u = M) := by
  refine Cx.ofI (own := RX8) hls (by decide +kernel) rfl rfl (fun B => Nat.le_of_ble_eq_true rfl) ?_
  intro pp ee ss mm aa bb me c9 DD ca B Tl AA QQ F K KT KN
  show G pp l ee rmX8_errorsOf ss mm aa bb me c9 QQ DD ca B Tl AA 2 0 0 M 0 [(0, .ref (B + 0)), (1, .int x)] []
  refine g_aload_n F dX8_errorsOf_0 rfl 0 rfl ?_
  refine g_iload_n F dX8_errorsOf_1 rfl 1 rfl ?_
  refine x_callV F (kX8_observerNow l hls r0 _) (cwV 1 F.1.2.2.2.2 gX8_errorsOf_X8_observerNow rfl rfl rfl (by decide +kernel) ⟨Nat.le_of_ble_eq_true rfl, Nat.le_of_ble_eq_true rfl⟩) r0 (by decide) rfl rfl rfl rfl (Nat.le_of_ble_eq_true rfl) dX8_errorsOf_2 ⟨Nat.le_of_ble_eq_true rfl, Nat.le_of_ble_eq_true rfl⟩ (fun v9 u9 h9 => ?_) (fun E9 u9 x9 => KT E9 u9 _ _ _ _ (Nat.le_of_ble_eq_true rfl) (Nat.le_of_ble_eq_true rfl) x9)
  obtain ⟨k, hk, e8, rfl, e6⟩ := h9
  obtain rfl := e6.symm
  refine gg4_errors F iX8_errorsOf_4 (el14 (sb6 r1).2.1 hk) (by decide +kernel) dX8_errorsOf_5 ?_
  refine g_widen (k := rmX8_errorsOf.cells) (n := rmX8_errorsOf.slots) (Nat.le_of_ble_eq_true rfl) (Nat.le_of_ble_eq_true rfl) ?_
  exact K _ _ _ _ dX8_errorsOf_8 rfl ⟨k, hk, e8, rfl, rfl⟩

abbrev rmX8_wouldRead : Room := { frames := 7, cells := 2, slots := 12, locals := 111 }
theorem iX8_wouldRead_6 : ∀ w ∈ u_ws RX6 TX6 10, w ∈ wsX8_wouldRead := by decide +kernel
theorem iX8_wouldRead_8 : ∀ w ∈ u_ws RX8 TX8 6, w ∈ wsX8_wouldRead := by decide +kernel
set_option maxHeartbeats 4000000 in
set_option maxRecDepth 100000 in
theorem kX8_wouldRead (l : Launch) (hls : l.stackTraces = false) {M : Mm} (x y : Int32) : Cx l yX8_wouldRead wsX8_wouldRead rmX8_wouldRead (fun B => [.ref (B + 0), .int x, .int y]) M (fun _ v u => ∃ k, k < 3 ∧ x = nI k ∧ ∃ c, c < 8 ∧ y = nI c ∧ v = some (.int (rdC (M (obP 1 k)) (shC M (chP 1 c) (M 1 9)) (gyF (M (1 + 4)) (M 1 9 / 4)))) ∧ u = M) (fun E u => E = xI ∧ ¬ ((0 ≤ x ∧ x ≤ 2) ∧ (0 ≤ y ∧ y ≤ 7)) ∧ u = M) := by
  refine Cx.ofI (own := RX8) hls (by decide +kernel) rfl rfl (fun B => Nat.le_of_ble_eq_true rfl) ?_
  intro pp ee ss mm aa bb me c9 DD ca B Tl AA QQ F K KT KN
  show G pp l ee rmX8_wouldRead ss mm aa bb me c9 QQ DD ca B Tl AA 5 0 0 M 0 [(0, .ref (B + 0)), (1, .int x), (2, .int y)] []
  refine g_aload_n F dX8_wouldRead_0 rfl 0 rfl ?_
  refine g_iload_n F dX8_wouldRead_1 rfl 1 rfl ?_
  refine x_callV F (kX8_observerNow l hls r0 _) (cwV 1 F.1.2.2.2.2 gX8_wouldRead_X8_observerNow rfl rfl rfl (by decide +kernel) ⟨Nat.le_of_ble_eq_true rfl, Nat.le_of_ble_eq_true rfl⟩) r0 (by decide) rfl rfl rfl rfl (Nat.le_of_ble_eq_true rfl) dX8_wouldRead_2 ⟨Nat.le_of_ble_eq_true rfl, Nat.le_of_ble_eq_true rfl⟩ (fun v9 u9 h9 => ?_) (fun E9 u9 x9 => KT E9 u9 _ _ _ _ (Nat.le_of_ble_eq_true rfl) (Nat.le_of_ble_eq_true rfl) ⟨x9.1, fun z => x9.2.1 z.1, x9.2.2⟩)
  obtain ⟨k, hk, e8, rfl, e6⟩ := h9
  obtain rfl := e6.symm
  refine g_astore_n F (lv2 := [(3, _), (0, _), (1, _), (2, _)]) dX8_wouldRead_5 rfl (by decide) rfl ?_
  refine g_aload_n F dX8_wouldRead_6 rfl 1 rfl ?_
  refine gg8_now F iX8_wouldRead_8 r0 (by decide +kernel) dX8_wouldRead_7 ?_
  refine g_iload_n F dX8_wouldRead_10 rfl 3 rfl ?_
  refine x_callS F (kX8_chimneyOn l hls r1 _) (va_cwS 2 F.1.2.2.2.2 gX8_wouldRead_X8_chimneyOn rfl rfl rfl (by decide +kernel) ⟨Nat.le_of_ble_eq_true rfl, Nat.le_of_ble_eq_true rfl⟩) rfl rfl rfl (Nat.le_of_ble_eq_true rfl) dX8_wouldRead_11 ⟨Nat.le_of_ble_eq_true rfl, Nat.le_of_ble_eq_true rfl⟩ (fun v9 u9 h9 => ?_) (fun E9 u9 x9 => KT E9 u9 _ _ _ _ (Nat.le_of_ble_eq_true rfl) (Nat.le_of_ble_eq_true rfl) ⟨x9.1, fun z => x9.2.1 z.2, x9.2.2⟩)
  obtain ⟨c, hc, e9, rfl, e6⟩ := h9
  obtain rfl := e6.symm
  refine g_aload_n F dX8_wouldRead_14 rfl 1 rfl ?_
  refine gg8_now F iX8_wouldRead_8 r0 (by decide +kernel) dX8_wouldRead_15 ?_
  refine gg6_tick F iX8_wouldRead_6 r1 (by decide +kernel) dX8_wouldRead_18 ?_
  refine g_callV F (kX0_shadeAt l (el12 (sb6 r1).1 hc) _) (cwV 1 F.1.2.2.2.2 gX8_wouldRead_X0_shadeAt rfl rfl rfl (by decide +kernel) ⟨Nat.le_of_ble_eq_true rfl, Nat.le_of_ble_eq_true rfl⟩) (el12 (sb6 r1).1 hc) (by decide) rfl rfl rfl rfl (Nat.le_of_ble_eq_true rfl) dX8_wouldRead_21 ⟨Nat.le_of_ble_eq_true rfl, Nat.le_of_ble_eq_true rfl⟩ (g_det ?_)
  refine g_istore F (lv2 := [(4, _), (3, _), (0, _), (1, _), (2, _)]) dX8_wouldRead_24 (by decide) rfl ?_
  refine g_aload_n F dX8_wouldRead_26 rfl 1 rfl ?_
  refine g_iload F dX8_wouldRead_27 0 rfl ?_
  refine g_aload_n F dX8_wouldRead_29 rfl 2 rfl ?_
  refine gg8_now F iX8_wouldRead_8 r0 (by decide +kernel) dX8_wouldRead_30 ?_
  refine g_aload_n F dX8_wouldRead_33 rfl 2 rfl ?_
  refine gg8_now F iX8_wouldRead_8 r0 (by decide +kernel) dX8_wouldRead_34 ?_
  refine gg6_tick F iX8_wouldRead_6 r1 (by decide +kernel) dX8_wouldRead_37 ?_
  refine g_callV F (kX6_greyAtTick l r1 _) (cwV 1 F.1.2.2.2.2 gX8_wouldRead_X6_greyAtTick rfl rfl rfl (by decide +kernel) ⟨Nat.le_of_ble_eq_true rfl, Nat.le_of_ble_eq_true rfl⟩) r1 (by decide) rfl rfl rfl rfl (Nat.le_of_ble_eq_true rfl) dX8_wouldRead_40 ⟨Nat.le_of_ble_eq_true rfl, Nat.le_of_ble_eq_true rfl⟩ (g_det ?_)
  refine g_callV F (kX4_readingFor l (el14 (sb6 r1).2.1 hk) _ _) (cwV 2 F.1.2.2.2.2 gX8_wouldRead_X4_readingFor rfl rfl rfl (by decide +kernel) ⟨Nat.le_of_ble_eq_true rfl, Nat.le_of_ble_eq_true rfl⟩) (el14 (sb6 r1).2.1 hk) (by decide) rfl rfl rfl rfl (Nat.le_of_ble_eq_true rfl) dX8_wouldRead_43 ⟨Nat.le_of_ble_eq_true rfl, Nat.le_of_ble_eq_true rfl⟩ (g_det ?_)
  refine g_widen (k := rmX8_wouldRead.cells) (n := rmX8_wouldRead.slots) (Nat.le_of_ble_eq_true rfl) (Nat.le_of_ble_eq_true rfl) ?_
  exact K _ _ _ _ dX8_wouldRead_46 rfl ⟨k, hk, e8, c, hc, e9, rfl, rfl⟩

abbrev rmX8_chimneyOf : Room := { frames := 7, cells := 1, slots := 6, locals := 111 }
theorem iX8_chimneyOf_3 : ∀ w ∈ u_ws RX3 TX3 6, w ∈ wsX8_chimneyOf := by decide +kernel
set_option maxHeartbeats 4000000 in
set_option maxRecDepth 100000 in
theorem kX8_chimneyOf (l : Launch) (hls : l.stackTraces = false) {M : Mm} {n : Nat} (hn : M 1 5 = nI n) (hn20 : n ≤ 20) (x : Int32) : Cx l yX8_chimneyOf wsX8_chimneyOf rmX8_chimneyOf (fun B => [.ref (B + 0), .int x]) M (fun _ v u => ∃ e, e < n ∧ x = nI e ∧ v = some (.int (M (noP 1 e) 0)) ∧ u = M) (fun E u => E = xI ∧ ¬ (0 ≤ x ∧ x < nI n ∧ x < 20) ∧ u = M) := by
  refine Cx.ofI (own := RX8) hls (by decide +kernel) rfl rfl (fun B => Nat.le_of_ble_eq_true rfl) ?_
  intro pp ee ss mm aa bb me c9 DD ca B Tl AA QQ F K KT KN
  show G pp l ee rmX8_chimneyOf ss mm aa bb me c9 QQ DD ca B Tl AA 2 0 0 M 0 [(0, .ref (B + 0)), (1, .int x)] []
  refine g_aload_n F dX8_chimneyOf_0 rfl 0 rfl ?_
  refine g_iload_n F dX8_chimneyOf_1 rfl 1 rfl ?_
  refine x_callV F (kX8_noticeNow l hls r0 hn hn20 _) (cwV 1 F.1.2.2.2.2 gX8_chimneyOf_X8_noticeNow rfl rfl rfl (by decide +kernel) ⟨Nat.le_of_ble_eq_true rfl, Nat.le_of_ble_eq_true rfl⟩) r0 (by decide) rfl rfl rfl rfl (Nat.le_of_ble_eq_true rfl) dX8_chimneyOf_2 ⟨Nat.le_of_ble_eq_true rfl, Nat.le_of_ble_eq_true rfl⟩ (fun v9 u9 h9 => ?_) (fun E9 u9 x9 => KT E9 u9 _ _ _ _ (Nat.le_of_ble_eq_true rfl) (Nat.le_of_ble_eq_true rfl) x9)
  obtain ⟨e, he, e7, rfl, e6⟩ := h9
  obtain rfl := e6.symm
  refine gg3_chimney F iX8_chimneyOf_3 (el13 (sb6 r1).2.2.1 (by omega)) (by decide +kernel) dX8_chimneyOf_5 ?_
  refine g_widen (k := rmX8_chimneyOf.cells) (n := rmX8_chimneyOf.slots) (Nat.le_of_ble_eq_true rfl) (Nat.le_of_ble_eq_true rfl) ?_
  exact K _ _ _ _ dX8_chimneyOf_8 rfl ⟨e, he, e7, rfl, rfl⟩

abbrev rmX8_fineOf : Room := { frames := 7, cells := 1, slots := 6, locals := 111 }
theorem iX8_fineOf_3 : ∀ w ∈ u_ws RX3 TX3 6, w ∈ wsX8_fineOf := by decide +kernel
set_option maxHeartbeats 4000000 in
set_option maxRecDepth 100000 in
theorem kX8_fineOf (l : Launch) (hls : l.stackTraces = false) {M : Mm} {n : Nat} (hn : M 1 5 = nI n) (hn20 : n ≤ 20) (x : Int32) : Cx l yX8_fineOf wsX8_fineOf rmX8_fineOf (fun B => [.ref (B + 0), .int x]) M (fun _ v u => ∃ e, e < n ∧ x = nI e ∧ v = some (.int (M (noP 1 e) 1)) ∧ u = M) (fun E u => E = xI ∧ ¬ (0 ≤ x ∧ x < nI n ∧ x < 20) ∧ u = M) := by
  refine Cx.ofI (own := RX8) hls (by decide +kernel) rfl rfl (fun B => Nat.le_of_ble_eq_true rfl) ?_
  intro pp ee ss mm aa bb me c9 DD ca B Tl AA QQ F K KT KN
  show G pp l ee rmX8_fineOf ss mm aa bb me c9 QQ DD ca B Tl AA 2 0 0 M 0 [(0, .ref (B + 0)), (1, .int x)] []
  refine g_aload_n F dX8_fineOf_0 rfl 0 rfl ?_
  refine g_iload_n F dX8_fineOf_1 rfl 1 rfl ?_
  refine x_callV F (kX8_noticeNow l hls r0 hn hn20 _) (cwV 1 F.1.2.2.2.2 gX8_fineOf_X8_noticeNow rfl rfl rfl (by decide +kernel) ⟨Nat.le_of_ble_eq_true rfl, Nat.le_of_ble_eq_true rfl⟩) r0 (by decide) rfl rfl rfl rfl (Nat.le_of_ble_eq_true rfl) dX8_fineOf_2 ⟨Nat.le_of_ble_eq_true rfl, Nat.le_of_ble_eq_true rfl⟩ (fun v9 u9 h9 => ?_) (fun E9 u9 x9 => KT E9 u9 _ _ _ _ (Nat.le_of_ble_eq_true rfl) (Nat.le_of_ble_eq_true rfl) x9)
  obtain ⟨e, he, e7, rfl, e6⟩ := h9
  obtain rfl := e6.symm
  refine gg3_fine F iX8_fineOf_3 (el13 (sb6 r1).2.2.1 (by omega)) (by decide +kernel) dX8_fineOf_5 ?_
  refine g_widen (k := rmX8_fineOf.cells) (n := rmX8_fineOf.slots) (Nat.le_of_ble_eq_true rfl) (Nat.le_of_ble_eq_true rfl) ?_
  exact K _ _ _ _ dX8_fineOf_8 rfl ⟨e, he, e7, rfl, rfl⟩

abbrev rmX8_wouldAppeal : Room := { frames := 7, cells := 1, slots := 6, locals := 111 }
set_option maxHeartbeats 4000000 in
set_option maxRecDepth 100000 in
theorem kX8_wouldAppeal (l : Launch) (hls : l.stackTraces = false) {M : Mm} {n : Nat} (hn : M 1 5 = nI n) (hn20 : n ≤ 20) (x : Int32) : Cx l yX8_wouldAppeal wsX8_wouldAppeal rmX8_wouldAppeal (fun B => [.ref (B + 0), .int x]) M (fun _ v u => ∃ e, e < n ∧ x = nI e ∧ v = some (.int (outC (M (noP 1 e)))) ∧ u = M) (fun E u => E = xI ∧ ¬ (0 ≤ x ∧ x < nI n ∧ x < 20) ∧ u = M) := by
  refine Cx.ofI (own := RX8) hls (by decide +kernel) rfl rfl (fun B => Nat.le_of_ble_eq_true rfl) ?_
  intro pp ee ss mm aa bb me c9 DD ca B Tl AA QQ F K KT KN
  show G pp l ee rmX8_wouldAppeal ss mm aa bb me c9 QQ DD ca B Tl AA 2 0 0 M 0 [(0, .ref (B + 0)), (1, .int x)] []
  refine g_aload_n F dX8_wouldAppeal_0 rfl 0 rfl ?_
  refine g_iload_n F dX8_wouldAppeal_1 rfl 1 rfl ?_
  refine x_callV F (kX8_noticeNow l hls r0 hn hn20 _) (cwV 1 F.1.2.2.2.2 gX8_wouldAppeal_X8_noticeNow rfl rfl rfl (by decide +kernel) ⟨Nat.le_of_ble_eq_true rfl, Nat.le_of_ble_eq_true rfl⟩) r0 (by decide) rfl rfl rfl rfl (Nat.le_of_ble_eq_true rfl) dX8_wouldAppeal_2 ⟨Nat.le_of_ble_eq_true rfl, Nat.le_of_ble_eq_true rfl⟩ (fun v9 u9 h9 => ?_) (fun E9 u9 x9 => KT E9 u9 _ _ _ _ (Nat.le_of_ble_eq_true rfl) (Nat.le_of_ble_eq_true rfl) x9)
  obtain ⟨e, he, e7, rfl, e6⟩ := h9
  obtain rfl := e6.symm
  refine g_callV F (kX3_outcome l (el13 (sb6 r1).2.2.1 (by omega))) (cwV 0 F.1.2.2.2.2 gX8_wouldAppeal_X3_outcome rfl rfl rfl (by decide +kernel) ⟨Nat.le_of_ble_eq_true rfl, Nat.le_of_ble_eq_true rfl⟩) (el13 (sb6 r1).2.2.1 (by omega)) (by decide) rfl rfl rfl rfl (Nat.le_of_ble_eq_true rfl) dX8_wouldAppeal_5 ⟨Nat.le_of_ble_eq_true rfl, Nat.le_of_ble_eq_true rfl⟩ (g_det ?_)
  refine g_widen (k := rmX8_wouldAppeal.cells) (n := rmX8_wouldAppeal.slots) (Nat.le_of_ble_eq_true rfl) (Nat.le_of_ble_eq_true rfl) ?_
  exact K _ _ _ _ dX8_wouldAppeal_8 rfl ⟨e, he, e7, rfl, rfl⟩

abbrev rmX8_stands : Room := { frames := 7, cells := 1, slots := 6, locals := 111 }
theorem iX8_stands_3 : ∀ w ∈ u_ws RX3 TX3 6, w ∈ wsX8_stands := by decide +kernel
set_option maxHeartbeats 4000000 in
set_option maxRecDepth 100000 in
theorem kX8_stands (l : Launch) (hls : l.stackTraces = false) {M : Mm} {n : Nat} (hn : M 1 5 = nI n) (hn20 : n ≤ 20) (x : Int32) : Cx l yX8_stands wsX8_stands rmX8_stands (fun B => [.ref (B + 0), .int x]) M (fun _ v u => ∃ e, e < n ∧ x = nI e ∧ v = some (.int (M (noP 1 e) 5)) ∧ u = M) (fun E u => E = xI ∧ ¬ (0 ≤ x ∧ x < nI n ∧ x < 20) ∧ u = M) := by
  refine Cx.ofI (own := RX8) hls (by decide +kernel) rfl rfl (fun B => Nat.le_of_ble_eq_true rfl) ?_
  intro pp ee ss mm aa bb me c9 DD ca B Tl AA QQ F K KT KN
  show G pp l ee rmX8_stands ss mm aa bb me c9 QQ DD ca B Tl AA 2 0 0 M 0 [(0, .ref (B + 0)), (1, .int x)] []
  refine g_Ty (fun hT => ?_)
  refine g_aload_n F dX8_stands_0 rfl 0 rfl ?_
  refine g_iload_n F dX8_stands_1 rfl 1 rfl ?_
  refine x_callV F (kX8_noticeNow l hls r0 hn hn20 _) (cwV 1 F.1.2.2.2.2 gX8_stands_X8_noticeNow rfl rfl rfl (by decide +kernel) ⟨Nat.le_of_ble_eq_true rfl, Nat.le_of_ble_eq_true rfl⟩) r0 (by decide) rfl rfl rfl rfl (Nat.le_of_ble_eq_true rfl) dX8_stands_2 ⟨Nat.le_of_ble_eq_true rfl, Nat.le_of_ble_eq_true rfl⟩ (fun v9 u9 h9 => ?_) (fun E9 u9 x9 => KT E9 u9 _ _ _ _ (Nat.le_of_ble_eq_true rfl) (Nat.le_of_ble_eq_true rfl) x9)
  obtain ⟨e, he, e7, rfl, e6⟩ := h9
  obtain rfl := e6.symm
  refine gg3_standing F iX8_stands_3 (el13 (sb6 r1).2.2.1 (by omega)) (by decide +kernel) dX8_stands_5 ?_
  refine g_widen (k := rmX8_stands.cells) (n := rmX8_stands.slots) (Nat.le_of_ble_eq_true rfl) (Nat.le_of_ble_eq_true rfl) ?_
  exact K _ _ _ _ dX8_stands_8 (bit_z (hT.1 _ (el13 (r := 4) (sb6 r1).2.2.1 (show e < 20 by omega)).2 5 (by decide) (by decide))).1 ⟨e, he, e7, rfl, rfl⟩

abbrev rmX8_finesOf : Room := { frames := 7, cells := 1, slots := 6, locals := 111 }
theorem iX8_finesOf_8 : ∀ w ∈ u_ws RX8 TX8 6, w ∈ wsX8_finesOf := by decide +kernel
set_option maxHeartbeats 4000000 in
set_option maxRecDepth 100000 in
theorem kX8_finesOf (l : Launch) (hls : l.stackTraces = false) {M : Mm} {n : Nat} (hn : M 1 5 = nI n) (hn20 : n ≤ 20) (x y : Int32) : Cx l yX8_finesOf wsX8_finesOf rmX8_finesOf (fun B => [.ref (B + 0), .int x, .int y]) M (fun _ v u => ∃ c, c < 8 ∧ x = nI c ∧ v = some (.int (if y = 0 then finF M 1 x n else M (chP 1 c) 4 - M (chP 1 c) 5)) ∧ u = M) (fun E u => E = xI ∧ ¬ (0 ≤ x ∧ x ≤ 7) ∧ u = M) := by
  refine Cx.ofI (own := RX8) hls (by decide +kernel) rfl rfl (fun B => Nat.le_of_ble_eq_true rfl) ?_
  intro pp ee ss mm aa bb me c9 DD ca B Tl AA QQ F K KT KN
  show G pp l ee rmX8_finesOf ss mm aa bb me c9 QQ DD ca B Tl AA 4 0 0 M 0 [(0, .ref (B + 0)), (1, .int x), (2, .int y)] []
  refine g_aload_n F dX8_finesOf_0 rfl 0 rfl ?_
  refine gg8_now F iX8_finesOf_8 r0 (by decide +kernel) dX8_finesOf_1 ?_
  refine g_iload_n F dX8_finesOf_4 rfl 1 rfl ?_
  refine x_callS F (kX8_chimneyOn l hls r1 _) (va_cwS 2 F.1.2.2.2.2 gX8_finesOf_X8_chimneyOn rfl rfl rfl (by decide +kernel) ⟨Nat.le_of_ble_eq_true rfl, Nat.le_of_ble_eq_true rfl⟩) rfl rfl rfl (Nat.le_of_ble_eq_true rfl) dX8_finesOf_5 ⟨Nat.le_of_ble_eq_true rfl, Nat.le_of_ble_eq_true rfl⟩ (fun v9 u9 h9 => ?_) (fun E9 u9 x9 => KT E9 u9 _ _ _ _ (Nat.le_of_ble_eq_true rfl) (Nat.le_of_ble_eq_true rfl) x9)
  obtain ⟨c, hc, e9, rfl, e6⟩ := h9
  obtain rfl := e6.symm
  refine g_astore_n F (lv2 := [(3, _), (0, _), (1, _), (2, _)]) dX8_finesOf_8 rfl (by decide) rfl ?_
  refine g_iload_n F dX8_finesOf_9 rfl 3 rfl ?_
  refine g_if_eq F 20 dX8_finesOf_10 (by decide) (fun h1 => ?_) (fun h1 => ?_)
  · refine g_aload_n F dX8_finesOf_20 rfl 1 rfl ?_
    refine gg8_now F iX8_finesOf_8 r0 (by decide +kernel) dX8_finesOf_21 ?_
    refine g_iload_n F dX8_finesOf_24 rfl 2 rfl ?_
    refine g_callV F (kX6_finesByNotices l r1 n hn hn20 _) (cwV 1 F.1.2.2.2.2 gX8_finesOf_X6_finesByNotices rfl rfl rfl (by decide +kernel) ⟨Nat.le_of_ble_eq_true rfl, Nat.le_of_ble_eq_true rfl⟩) r1 (by decide) rfl rfl rfl rfl (Nat.le_of_ble_eq_true rfl) dX8_finesOf_25 ⟨Nat.le_of_ble_eq_true rfl, Nat.le_of_ble_eq_true rfl⟩ (g_det ?_)
    refine g_widen (k := rmX8_finesOf.cells) (n := rmX8_finesOf.slots) (Nat.le_of_ble_eq_true rfl) (Nat.le_of_ble_eq_true rfl) ?_
    exact K _ _ _ _ dX8_finesOf_28 rfl ⟨c, hc, e9, by first | (rw [if_pos h1]; done) | (rw [if_neg h1]; done), rfl⟩
  · refine g_aload_n F dX8_finesOf_13 rfl 0 rfl ?_
    refine g_callV F (kX0_finesByAccounts l (el12 (sb6 r1).1 hc)) (cwV 0 F.1.2.2.2.2 gX8_finesOf_X0_finesByAccounts rfl rfl rfl (by decide +kernel) ⟨Nat.le_of_ble_eq_true rfl, Nat.le_of_ble_eq_true rfl⟩) (el12 (sb6 r1).1 hc) (by decide) rfl rfl rfl rfl (Nat.le_of_ble_eq_true rfl) dX8_finesOf_14 ⟨Nat.le_of_ble_eq_true rfl, Nat.le_of_ble_eq_true rfl⟩ (g_det ?_)
    refine g_goto F 28 dX8_finesOf_17 (by decide) ?_
    refine g_widen (k := rmX8_finesOf.cells) (n := rmX8_finesOf.slots) (Nat.le_of_ble_eq_true rfl) (Nat.le_of_ble_eq_true rfl) ?_
    exact K _ _ _ _ dX8_finesOf_28 rfl ⟨c, hc, e9, by first | (rw [if_pos h1]; done) | (rw [if_neg h1]; done), rfl⟩
