abbrev xI : String := "java/lang/IndexOutOfBoundsException"
abbrev xA : String := "java/lang/IllegalArgumentException"
abbrev xS : String := "java/lang/IllegalStateException"
theorem of2 {x : Int32} (h : 0 ≤ x ∧ x ≤ 2) : ∃ c, c < 3 ∧ x = nI c := by
  obtain ⟨j, hj, e⟩ := nI_of2 (M := 2) (n := 2) (by decide) (Int32.not_lt.mpr h.1) h.2
  exact ⟨j, by omega, e⟩
theorem of1 {x : Int32} (h : 0 ≤ x ∧ x ≤ 1) : ∃ c, c < 2 ∧ x = nI c := by
  obtain ⟨j, hj, e⟩ := nI_of2 (M := 1) (n := 1) (by decide) (Int32.not_lt.mpr h.1) h.2
  exact ⟨j, by omega, e⟩
theorem ofn {x : Int32} {n : Nat} (hn : n ≤ 20) (h : 0 ≤ x ∧ x < nI n ∧ x < 20) : ∃ e, e < n ∧ x = nI e := by
  obtain ⟨j, hj, rfl⟩ := nI_of (Int32.not_lt.mpr h.1)
  exact ⟨j, (nI_ltI hj (by omega)).mp h.2.1, rfl⟩

abbrev rmX8_demand : Room := { frames := 6, cells := 1, slots := 6, locals := 90 }
set_option maxHeartbeats 4000000 in
set_option maxRecDepth 100000 in
theorem kX8_demand (l : Launch) (hls : l.stackTraces = false) {M : Mm} (x : Int32) : Cx l yX8_demand wsX8_demand rmX8_demand (fun B => [.int x]) M (fun _ v u => ¬ x = 0 ∧ v = none ∧ u = M) (fun E u => E = xA ∧ x = 0 ∧ u = M) := by
  refine Cx.ofV (own := RX8) hls (by decide +kernel) rfl rfl (fun B => Nat.le_of_ble_eq_true rfl) ?_
  intro pp ee ss mm aa bb me c9 DD ca B Tl AA QQ F K KT KN
  show G pp l ee rmX8_demand ss mm aa bb me c9 QQ DD ca B Tl AA 1 0 0 M 0 [(0, .int x)] []
  refine g_iload_n F dX8_demand_0 rfl 0 rfl ?_
  refine g_if_ne F 15 dX8_demand_1 (by decide) (fun h1 => ?_) (fun h1 => ?_)
  · refine g_widen (k := rmX8_demand.cells) (n := rmX8_demand.slots) (Nat.le_of_ble_eq_true rfl) (Nat.le_of_ble_eq_true rfl) ?_
    exact K _ _ _ dX8_demand_15 ⟨h1, rfl, rfl⟩
  · exact KN "java/lang/IllegalArgumentException" "an argument, or the pad, is not as it has to be" 303 305 307 _ _ _ _ _ _ (by decide +kernel) (by decide +kernel) (by decide +kernel) (by decide +kernel) (by decide +kernel) (by decide +kernel) (by decide +kernel) (by decide +kernel) dX8_demand_4 dX8_demand_7 (Or.inr ⟨dX8_demand_8, dX8_demand_11, dX8_demand_14⟩) (Nat.le_of_ble_eq_true rfl) (Nat.le_of_ble_eq_true rfl) (Nat.le_of_ble_eq_true rfl) (Nat.le_of_ble_eq_true rfl) (Nat.le_refl _) (Nat.le_refl _) ⟨rfl, h1, rfl⟩

abbrev rmX8_chimneyOn : Room := { frames := 6, cells := 1, slots := 6, locals := 90 }
theorem iX8_chimneyOn_6 : ∀ w ∈ u_ws RX6 TX6 10, w ∈ wsX8_chimneyOn := by decide +kernel
set_option maxHeartbeats 4000000 in
set_option maxRecDepth 100000 in
theorem kX8_chimneyOn (l : Launch) (hls : l.stackTraces = false) {M : Mm} {r : Nat} (hr : isR 6 r) (x : Int32) : Cx l yX8_chimneyOn wsX8_chimneyOn rmX8_chimneyOn (fun B => [.ref (B + r), .int x]) M (fun B v u => ∃ c, c < 8 ∧ x = nI c ∧ v = some (.ref (B + chP r c)) ∧ u = M) (fun E u => E = xI ∧ ¬ (0 ≤ x ∧ x ≤ 7) ∧ u = M) := by
  refine Cx.ofR (own := RX8) hls (by decide +kernel) rfl rfl (fun B => Nat.le_of_ble_eq_true rfl) ?_
  intro pp ee ss mm aa bb me c9 DD ca B Tl AA QQ F K KT KN
  show G pp l ee rmX8_chimneyOn ss mm aa bb me c9 QQ DD ca B Tl AA 2 0 0 M 0 [(0, .ref (B + r)), (1, .int x)] []
  refine g_iload_n F dX8_chimneyOn_0 rfl 1 rfl ?_
  refine g_iconst F (v := 0) dX8_chimneyOn_1 (by decide) ?_
  refine g_bipush F (v := 7) dX8_chimneyOn_2 (by decide +kernel) ?_
  refine g_callS F (kX8_isWithin l _ _ _) (va_cwS 3 F.1.2.2.2.2 gX8_chimneyOn_X8_isWithin rfl rfl rfl (by decide +kernel) ⟨Nat.le_of_ble_eq_true rfl, Nat.le_of_ble_eq_true rfl⟩) rfl rfl rfl (Nat.le_of_ble_eq_true rfl) dX8_chimneyOn_4 ⟨Nat.le_of_ble_eq_true rfl, Nat.le_of_ble_eq_true rfl⟩ (g_det ?_)
  refine g_ifB_ne F 21 dX8_chimneyOn_7 (by decide) (fun h1 => ?_) (fun h1 => ?_)
  · obtain ⟨c, hc, rfl⟩ := of7 h1
    refine g_aload_n F dX8_chimneyOn_21 rfl 0 rfl ?_
    refine gg6_chimneys F iX8_chimneyOn_6 hr (by decide +kernel) dX8_chimneyOn_22 ?_
    refine g_iload_n F dX8_chimneyOn_25 rfl 1 rfl ?_
    refine g_aaload12 F (sb6 hr).1 (c) rfl (by omega) dX8_chimneyOn_26 ?_
    refine g_widen (k := rmX8_chimneyOn.cells) (n := rmX8_chimneyOn.slots) (Nat.le_of_ble_eq_true rfl) (Nat.le_of_ble_eq_true rfl) ?_
    exact K _ _ _ _ dX8_chimneyOn_27 ⟨c, hc, rfl, rfl, rfl⟩
  · exact KN "java/lang/IndexOutOfBoundsException" "there is no such chimney" 308 310 312 _ _ _ _ _ _ (by decide +kernel) (by decide +kernel) (by decide +kernel) (by decide +kernel) (by decide +kernel) (by decide +kernel) (by decide +kernel) (by decide +kernel) dX8_chimneyOn_10 dX8_chimneyOn_13 (Or.inr ⟨dX8_chimneyOn_14, dX8_chimneyOn_17, dX8_chimneyOn_20⟩) (Nat.le_of_ble_eq_true rfl) (Nat.le_of_ble_eq_true rfl) (Nat.le_of_ble_eq_true rfl) (Nat.le_of_ble_eq_true rfl) (Nat.le_refl _) (Nat.le_refl _) ⟨rfl, h1, rfl⟩

abbrev rmX8_observerNow : Room := { frames := 6, cells := 1, slots := 6, locals := 90 }
theorem iX8_observerNow_6 : ∀ w ∈ u_ws RX6 TX6 10, w ∈ wsX8_observerNow := by decide +kernel
theorem iX8_observerNow_8 : ∀ w ∈ u_ws RX8 TX8 6, w ∈ wsX8_observerNow := by decide +kernel
set_option maxHeartbeats 4000000 in
set_option maxRecDepth 100000 in
theorem kX8_observerNow (l : Launch) (hls : l.stackTraces = false) {M : Mm} {r : Nat} (hr : isR 8 r) (x : Int32) : Cx l yX8_observerNow wsX8_observerNow rmX8_observerNow (fun B => [.ref (B + r), .int x]) M (fun B v u => ∃ c, c < 3 ∧ x = nI c ∧ v = some (.ref (B + obP (r + 1) c)) ∧ u = M) (fun E u => E = xI ∧ ¬ (0 ≤ x ∧ x ≤ 2) ∧ u = M) := by
  refine Cx.ofR (own := RX8) hls (by decide +kernel) rfl rfl (fun B => Nat.le_of_ble_eq_true rfl) ?_
  intro pp ee ss mm aa bb me c9 DD ca B Tl AA QQ F K KT KN
  show G pp l ee rmX8_observerNow ss mm aa bb me c9 QQ DD ca B Tl AA 2 0 0 M 0 [(0, .ref (B + r)), (1, .int x)] []
  refine g_iload_n F dX8_observerNow_0 rfl 1 rfl ?_
  refine g_iconst F (v := 0) dX8_observerNow_1 (by decide) ?_
  refine g_iconst F (v := 2) dX8_observerNow_2 (by decide) ?_
  refine g_callS F (kX8_isWithin l _ _ _) (va_cwS 3 F.1.2.2.2.2 gX8_observerNow_X8_isWithin rfl rfl rfl (by decide +kernel) ⟨Nat.le_of_ble_eq_true rfl, Nat.le_of_ble_eq_true rfl⟩) rfl rfl rfl (Nat.le_of_ble_eq_true rfl) dX8_observerNow_3 ⟨Nat.le_of_ble_eq_true rfl, Nat.le_of_ble_eq_true rfl⟩ (g_det ?_)
  refine g_ifB_ne F 20 dX8_observerNow_6 (by decide) (fun h1 => ?_) (fun h1 => ?_)
  · obtain ⟨c, hc, rfl⟩ := of2 h1
    refine g_aload_n F dX8_observerNow_20 rfl 0 rfl ?_
    refine gg8_now F iX8_observerNow_8 hr (by decide +kernel) dX8_observerNow_21 ?_
    refine gg6_observers F iX8_observerNow_6 (sb8 hr).1 (by decide +kernel) dX8_observerNow_24 ?_
    refine g_iload_n F dX8_observerNow_27 rfl 1 rfl ?_
    refine g_aaload14 F (sb6 (sb8 hr).1).2.1 (c) rfl (by omega) dX8_observerNow_28 ?_
    refine g_widen (k := rmX8_observerNow.cells) (n := rmX8_observerNow.slots) (Nat.le_of_ble_eq_true rfl) (Nat.le_of_ble_eq_true rfl) ?_
    exact K _ _ _ _ dX8_observerNow_29 ⟨c, hc, rfl, rfl, rfl⟩
  · exact KN "java/lang/IndexOutOfBoundsException" "there is no such observer" 308 313 312 _ _ _ _ _ _ (by decide +kernel) (by decide +kernel) (by decide +kernel) (by decide +kernel) (by decide +kernel) (by decide +kernel) (by decide +kernel) (by decide +kernel) dX8_observerNow_9 dX8_observerNow_12 (Or.inr ⟨dX8_observerNow_13, dX8_observerNow_16, dX8_observerNow_19⟩) (Nat.le_of_ble_eq_true rfl) (Nat.le_of_ble_eq_true rfl) (Nat.le_of_ble_eq_true rfl) (Nat.le_of_ble_eq_true rfl) (Nat.le_refl _) (Nat.le_refl _) ⟨rfl, h1, rfl⟩

abbrev rmX8_noticeNow : Room := { frames := 6, cells := 1, slots := 6, locals := 90 }
theorem iX8_noticeNow_6 : ∀ w ∈ u_ws RX6 TX6 10, w ∈ wsX8_noticeNow := by decide +kernel
theorem iX8_noticeNow_8 : ∀ w ∈ u_ws RX8 TX8 6, w ∈ wsX8_noticeNow := by decide +kernel
set_option maxHeartbeats 4000000 in
set_option maxRecDepth 100000 in
theorem kX8_noticeNow (l : Launch) (hls : l.stackTraces = false) {M : Mm} {r n : Nat} (hr : isR 8 r) (hn : M (r + 1) 5 = nI n) (hn20 : n ≤ 20) (x : Int32) : Cx l yX8_noticeNow wsX8_noticeNow rmX8_noticeNow (fun B => [.ref (B + r), .int x]) M (fun B v u => ∃ c, c < n ∧ x = nI c ∧ v = some (.ref (B + noP (r + 1) c)) ∧ u = M) (fun E u => E = xI ∧ ¬ (0 ≤ x ∧ x < nI n ∧ x < 20) ∧ u = M) := by
  refine Cx.ofR (own := RX8) hls (by decide +kernel) rfl rfl (fun B => Nat.le_of_ble_eq_true rfl) ?_
  intro pp ee ss mm aa bb me c9 DD ca B Tl AA QQ F K KT KN
  show G pp l ee rmX8_noticeNow ss mm aa bb me c9 QQ DD ca B Tl AA 2 0 0 M 0 [(0, .ref (B + r)), (1, .int x)] []
  refine g_aload_n F dX8_noticeNow_0 rfl 0 rfl ?_
  refine gg8_now F iX8_noticeNow_8 hr (by decide +kernel) dX8_noticeNow_1 ?_
  refine g_iload_n F dX8_noticeNow_4 rfl 1 rfl ?_
  refine g_callV F (kX6_hasNotice l (sb8 hr).1 _) (cwV 1 F.1.2.2.2.2 gX8_noticeNow_X6_hasNotice rfl rfl rfl (by decide +kernel) ⟨Nat.le_of_ble_eq_true rfl, Nat.le_of_ble_eq_true rfl⟩) (sb8 hr).1 (by decide) rfl rfl rfl rfl (Nat.le_of_ble_eq_true rfl) dX8_noticeNow_5 ⟨Nat.le_of_ble_eq_true rfl, Nat.le_of_ble_eq_true rfl⟩ (g_det ?_)
  refine g_ifB_ne F 22 dX8_noticeNow_8 (by decide) (fun h1 => ?_) (fun h1 => ?_)
  · obtain ⟨c, hc, rfl⟩ := ofn hn20 (by rw [← hn]; exact h1)
    refine g_aload_n F dX8_noticeNow_22 rfl 0 rfl ?_
    refine gg8_now F iX8_noticeNow_8 hr (by decide +kernel) dX8_noticeNow_23 ?_
    refine gg6_notes F iX8_noticeNow_6 (sb8 hr).1 (by decide +kernel) dX8_noticeNow_26 ?_
    refine g_iload_n F dX8_noticeNow_29 rfl 1 rfl ?_
    refine g_aaload13 F (sb6 (sb8 hr).1).2.2.1 (c) rfl (by omega) dX8_noticeNow_30 ?_
    refine g_widen (k := rmX8_noticeNow.cells) (n := rmX8_noticeNow.slots) (Nat.le_of_ble_eq_true rfl) (Nat.le_of_ble_eq_true rfl) ?_
    exact K _ _ _ _ dX8_noticeNow_31 ⟨c, hc, rfl, rfl, rfl⟩
  · exact KN "java/lang/IndexOutOfBoundsException" "there is no such notice" 308 322 312 _ _ _ _ _ _ (by decide +kernel) (by decide +kernel) (by decide +kernel) (by decide +kernel) (by decide +kernel) (by decide +kernel) (by decide +kernel) (by decide +kernel) dX8_noticeNow_11 dX8_noticeNow_14 (Or.inr ⟨dX8_noticeNow_15, dX8_noticeNow_18, dX8_noticeNow_21⟩) (Nat.le_of_ble_eq_true rfl) (Nat.le_of_ble_eq_true rfl) (Nat.le_of_ble_eq_true rfl) (Nat.le_of_ble_eq_true rfl) (Nat.le_refl _) (Nat.le_refl _) ⟨rfl, fun z => h1 (by rw [hn]; exact z), rfl⟩

abbrev slP (r i : Nat) : Nat := r + 563 + 4 + 71 * i

abbrev rmX8_slotNumbered : Room := { frames := 6, cells := 1, slots := 6, locals := 90 }
theorem iX8_slotNumbered_8 : ∀ w ∈ u_ws RX8 TX8 6, w ∈ wsX8_slotNumbered := by decide +kernel
set_option maxHeartbeats 4000000 in
set_option maxRecDepth 100000 in
theorem kX8_slotNumbered (l : Launch) (hls : l.stackTraces = false) {M : Mm} {r : Nat} (hr : isR 8 r) (x : Int32) : Cx l yX8_slotNumbered wsX8_slotNumbered rmX8_slotNumbered (fun B => [.ref (B + r), .int x]) M (fun B v u => ∃ c, c < 2 ∧ x = nI c ∧ v = some (.ref (B + slP r c)) ∧ u = M) (fun E u => E = xI ∧ ¬ (0 ≤ x ∧ x ≤ 1) ∧ u = M) := by
  refine Cx.ofR (own := RX8) hls (by decide +kernel) rfl rfl (fun B => Nat.le_of_ble_eq_true rfl) ?_
  intro pp ee ss mm aa bb me c9 DD ca B Tl AA QQ F K KT KN
  show G pp l ee rmX8_slotNumbered ss mm aa bb me c9 QQ DD ca B Tl AA 2 0 0 M 0 [(0, .ref (B + r)), (1, .int x)] []
  refine g_iload_n F dX8_slotNumbered_0 rfl 1 rfl ?_
  refine g_iconst F (v := 0) dX8_slotNumbered_1 (by decide) ?_
  refine g_iconst F (v := 1) dX8_slotNumbered_2 (by decide) ?_
  refine g_callS F (kX8_isWithin l _ _ _) (va_cwS 3 F.1.2.2.2.2 gX8_slotNumbered_X8_isWithin rfl rfl rfl (by decide +kernel) ⟨Nat.le_of_ble_eq_true rfl, Nat.le_of_ble_eq_true rfl⟩) rfl rfl rfl (Nat.le_of_ble_eq_true rfl) dX8_slotNumbered_3 ⟨Nat.le_of_ble_eq_true rfl, Nat.le_of_ble_eq_true rfl⟩ (g_det ?_)
  refine g_ifB_ne F 20 dX8_slotNumbered_6 (by decide) (fun h1 => ?_) (fun h1 => ?_)
  · obtain ⟨c, hc, rfl⟩ := of1 h1
    refine g_aload_n F dX8_slotNumbered_20 rfl 0 rfl ?_
    refine gg8_slots F iX8_slotNumbered_8 hr (by decide +kernel) dX8_slotNumbered_21 ?_
    refine g_iload_n F dX8_slotNumbered_24 rfl 1 rfl ?_
    refine g_aaload16 F (sb8 hr).2.2.2.1 (c) rfl (by omega) dX8_slotNumbered_25 ?_
    refine g_widen (k := rmX8_slotNumbered.cells) (n := rmX8_slotNumbered.slots) (Nat.le_of_ble_eq_true rfl) (Nat.le_of_ble_eq_true rfl) ?_
    exact K _ _ _ _ dX8_slotNumbered_26 ⟨c, hc, rfl, rfl, rfl⟩
  · exact KN "java/lang/IndexOutOfBoundsException" "there is no such slot" 308 328 312 _ _ _ _ _ _ (by decide +kernel) (by decide +kernel) (by decide +kernel) (by decide +kernel) (by decide +kernel) (by decide +kernel) (by decide +kernel) (by decide +kernel) dX8_slotNumbered_9 dX8_slotNumbered_12 (Or.inr ⟨dX8_slotNumbered_13, dX8_slotNumbered_16, dX8_slotNumbered_19⟩) (Nat.le_of_ble_eq_true rfl) (Nat.le_of_ble_eq_true rfl) (Nat.le_of_ble_eq_true rfl) (Nat.le_of_ble_eq_true rfl) (Nat.le_refl _) (Nat.le_refl _) ⟨rfl, h1, rfl⟩
