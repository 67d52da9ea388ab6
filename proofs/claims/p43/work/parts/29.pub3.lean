

theorem fit60 {L c : Nat} (hL : L ≤ 60) (hc : c ≤ 8) (h : nI c ≤ 60 - nI L) : L + c ≤ 60 := by
  have e : (60 : Int32) - nI L = nI (60 - L) := (pk_sub (a := 60) (b := L) hL).symm ▸ rfl
  rw [e] at h
  have := (nI_leI (by omega) (by omega)).mp h
  omega


abbrev rmX8_undo : Room := { frames := 6, cells := 1, slots := 6, locals := 145 }
theorem iX8_undo_2 : ∀ w ∈ u_ws RX2 TX2 2, w ∈ wsX8_undo := by decide +kernel
theorem iX8_undo_8 : ∀ w ∈ u_ws RX8 TX8 6, w ∈ wsX8_undo := by decide +kernel
set_option maxHeartbeats 4000000 in
set_option maxRecDepth 100000 in
theorem kX8_undo (l : Launch) (hls : l.stackTraces = false) {M : Mm} {h : Nat} (hS : hsS (M 142)) (hh6 : h ≤ 6) (hh : M 141 1 = nI h)  : Cx l yX8_undo wsX8_undo rmX8_undo (fun B => [.ref (B + 0)]) M (fun _ v u => ¬ M 141 1 = 0 ∧ v = some (.int (gbM M h 1 141 1)) ∧ u = gbM M h 1) (fun E u => E = xS ∧ M 141 1 = 0 ∧ u = M) := by
  refine Cx.ofI (own := RX8) hls (by decide +kernel) rfl rfl (fun B => Nat.le_of_ble_eq_true rfl) ?_
  intro pp ee ss mm aa bb me c9 DD ca B Tl AA QQ F K KT KN
  show G pp l ee rmX8_undo ss mm aa bb me c9 QQ DD ca B Tl AA 1 0 0 M 0 [(0, .ref (B + 0))] []
  refine g_aload_n F dX8_undo_0 rfl 0 rfl ?_
  refine gg8_history F iX8_undo_8 r0 (by decide +kernel) dX8_undo_1 ?_
  refine gg2_count F iX8_undo_2 r141 (by decide +kernel) dX8_undo_4 ?_
  refine g_if_ne F 21 dX8_undo_7 (by decide) (fun h1 => ?_) (fun h1 => ?_)
  · have hh1 : 1 ≤ h := Nat.one_le_iff_ne_zero.mpr (fun z => h1 (by rw [hh, z]; rfl))
    refine g_aload_n F dX8_undo_21 rfl 0 rfl ?_
    refine gg8_history F iX8_undo_8 r0 (by decide +kernel) dX8_undo_22 ?_
    refine g_aload_n F dX8_undo_25 rfl 0 rfl ?_
    refine gg8_now F iX8_undo_8 r0 (by decide +kernel) dX8_undo_26 ?_
    refine g_callV F (kX2_giveBack l (n := h) r1 (by decide) hS hh1 hh6 hh) (cwV 1 F.1.2.2.2.2 gX8_undo_X2_giveBack rfl rfl rfl (by decide +kernel) ⟨Nat.le_of_ble_eq_true rfl, Nat.le_of_ble_eq_true rfl⟩) r141 (by decide) rfl rfl rfl rfl (Nat.le_of_ble_eq_true rfl) dX8_undo_29 ⟨Nat.le_of_ble_eq_true rfl, Nat.le_of_ble_eq_true rfl⟩ (g_det ?_)
    refine g_aload_n F dX8_undo_32 rfl 0 rfl ?_
    refine gg8_history F iX8_undo_8 r0 (by decide +kernel) dX8_undo_33 ?_
    refine gg2_count F iX8_undo_2 r141 (by decide +kernel) dX8_undo_36 ?_
    refine g_widen (k := rmX8_undo.cells) (n := rmX8_undo.slots) (Nat.le_of_ble_eq_true rfl) (Nat.le_of_ble_eq_true rfl) ?_
    exact K _ _ _ _ dX8_undo_39 rfl ⟨h1, rfl, rfl⟩
  · exact KN "java/lang/IllegalStateException" "there is no change to undo" 120 283 124 _ _ _ _ _ _ (by decide +kernel) (by decide +kernel) (by decide +kernel) (by decide +kernel) (by decide +kernel) (by decide +kernel) (by decide +kernel) (by decide +kernel) dX8_undo_10 dX8_undo_13 (Or.inr ⟨dX8_undo_14, dX8_undo_17, dX8_undo_20⟩) (Nat.le_of_ble_eq_true rfl) (Nat.le_of_ble_eq_true rfl) (Nat.le_of_ble_eq_true rfl) (Nat.le_of_ble_eq_true rfl) (Nat.le_refl _) (Nat.le_refl _) ⟨rfl, h1, rfl⟩

abbrev rmX8_save : Room := { frames := 7, cells := 1, slots := 6, locals := 124 }
theorem iX8_save_7 : ∀ w ∈ u_ws RX7 TX7 2, w ∈ wsX8_save := by decide +kernel
theorem iX8_save_8 : ∀ w ∈ u_ws RX8 TX8 6, w ∈ wsX8_save := by decide +kernel
set_option maxHeartbeats 4000000 in
set_option maxRecDepth 100000 in
theorem kX8_save (l : Launch) (hls : l.stackTraces = false) {M : Mm} {n : Nat} (hn : M 1 5 = nI n) (hn20 : n ≤ 20) (x : Int32) : Cx l yX8_save wsX8_save rmX8_save (fun B => [.ref (B + 0), .int x]) M (fun _ v u => ∃ s, s < 2 ∧ x = nI s ∧ v = some (.int (stnF (va_up (cpR M (567 + 71 * s + 1) 1) (567 + 71 * s) (upd (cpR M (567 + 71 * s + 1) 1 (567 + 71 * s)) 1 1)) 1 n)) ∧ u = (va_up (cpR M (567 + 71 * s + 1) 1) (567 + 71 * s) (upd (cpR M (567 + 71 * s + 1) 1 (567 + 71 * s)) 1 1))) (fun E u => E = xI ∧ ¬ (0 ≤ x ∧ x ≤ 1) ∧ u = M) := by
  refine Cx.ofI (own := RX8) hls (by decide +kernel) rfl rfl (fun B => Nat.le_of_ble_eq_true rfl) ?_
  intro pp ee ss mm aa bb me c9 DD ca B Tl AA QQ F K KT KN
  show G pp l ee rmX8_save ss mm aa bb me c9 QQ DD ca B Tl AA 3 0 0 M 0 [(0, .ref (B + 0)), (1, .int x)] []
  refine g_aload_n F dX8_save_0 rfl 0 rfl ?_
  refine g_iload_n F dX8_save_1 rfl 1 rfl ?_
  refine x_callV F (kX8_slotNumbered l hls r0 _) (cwV 1 F.1.2.2.2.2 gX8_save_X8_slotNumbered rfl rfl rfl (by decide +kernel) ⟨Nat.le_of_ble_eq_true rfl, Nat.le_of_ble_eq_true rfl⟩) r0 (by decide) rfl rfl rfl rfl (Nat.le_of_ble_eq_true rfl) dX8_save_2 ⟨Nat.le_of_ble_eq_true rfl, Nat.le_of_ble_eq_true rfl⟩ (fun v9 u9 h9 => ?_) (fun E9 u9 x9 => KT E9 u9 _ _ _ _ (Nat.le_of_ble_eq_true rfl) (Nat.le_of_ble_eq_true rfl) x9)
  obtain ⟨s, hs, e4, rfl, e6⟩ := h9
  obtain rfl := e6.symm
  refine g_astore_n F (lv2 := [(2, _), (0, _), (1, _)]) dX8_save_5 rfl (by decide) rfl ?_
  refine g_aload_n F dX8_save_6 rfl 0 rfl ?_
  refine gg7_kept F iX8_save_7 (isR_slot hs) (by decide +kernel) dX8_save_7 ?_
  refine g_aload_n F dX8_save_10 rfl 1 rfl ?_
  refine gg8_now F iX8_save_8 r0 (by decide +kernel) dX8_save_11 ?_
  refine g_callV F (kX6_copyFrom l (sb7 (isR_slot hs)) r1 (by omega)) (cwV 1 F.1.2.2.2.2 gX8_save_X6_copyFrom rfl rfl rfl (by decide +kernel) ⟨Nat.le_of_ble_eq_true rfl, Nat.le_of_ble_eq_true rfl⟩) (sb7 (isR_slot hs)) (by decide) rfl rfl rfl rfl (Nat.le_of_ble_eq_true rfl) dX8_save_14 ⟨Nat.le_of_ble_eq_true rfl, Nat.le_of_ble_eq_true rfl⟩ (g_det ?_)
  refine g_aload_n F dX8_save_17 rfl 0 rfl ?_
  refine g_iconst F (v := 1) dX8_save_18 (by decide) ?_
  refine gp7_filled F iX8_save_7 (isR_slot hs) (by decide +kernel) (by first | exact bit_0 | exact bit_1 | assumption) dX8_save_19 ?_
  refine g_aload_n F dX8_save_22 rfl 1 rfl ?_
  refine gg8_now F iX8_save_8 r0 (by decide +kernel) dX8_save_23 ?_
  refine g_callV F (kX6_standingCount l (M := (va_up (cpR M (567 + 71 * s + 1) 1) (567 + 71 * s) (upd (cpR M (567 + 71 * s + 1) 1 (567 + 71 * s)) 1 1))) r1 n (by rw [va_up_ne _ _ (by omega), cpR_out (by omega)]; exact hn) hn20) (cwV 0 F.1.2.2.2.2 gX8_save_X6_standingCount rfl rfl rfl (by decide +kernel) ⟨Nat.le_of_ble_eq_true rfl, Nat.le_of_ble_eq_true rfl⟩) r1 (by decide) rfl rfl rfl rfl (Nat.le_of_ble_eq_true rfl) dX8_save_26 ⟨Nat.le_of_ble_eq_true rfl, Nat.le_of_ble_eq_true rfl⟩ (g_det ?_)
  refine g_widen (k := rmX8_save.cells) (n := rmX8_save.slots) (Nat.le_of_ble_eq_true rfl) (Nat.le_of_ble_eq_true rfl) ?_
  exact K _ _ _ _ dX8_save_29 rfl ⟨s, hs, e4, rfl, rfl⟩

abbrev rmX8_restore : Room := { frames := 7, cells := 2, slots := 12, locals := 145 }
theorem iX8_restore_7 : ∀ w ∈ u_ws RX7 TX7 2, w ∈ wsX8_restore := by decide +kernel
theorem iX8_restore_8 : ∀ w ∈ u_ws RX8 TX8 6, w ∈ wsX8_restore := by decide +kernel
set_option maxHeartbeats 4000000 in
set_option maxRecDepth 100000 in
theorem kX8_restore (l : Launch) (hls : l.stackTraces = false) {M : Mm} {h : Nat} (hS : hsS (M 142)) (hh6 : h ≤ 6) (hh : M 141 1 = nI h) (hK : ∀ s, s < 2 → ∃ n, n ≤ 20 ∧ M (567 + 71 * s + 1) 5 = nI n) (x : Int32) : Cx l yX8_restore wsX8_restore rmX8_restore (fun B => [.ref (B + 0), .int x]) M (fun _ v u => ∃ s, s < 2 ∧ x = nI s ∧ ¬ M (567 + 71 * s) 1 = 0 ∧ ∃ n, n ≤ 20 ∧ M (567 + 71 * s + 1) 5 = nI n ∧ v = some (.int (stnF (cpR (recM M h 1) 1 (567 + 71 * s + 1)) 1 n)) ∧ u = (cpR (recM M h 1) 1 (567 + 71 * s + 1))) (fun E u => E = xI ∧ ¬ (0 ≤ x ∧ x ≤ 1) ∧ u = M ∨ E = xS ∧ ∃ s, s < 2 ∧ x = nI s ∧ M (567 + 71 * s) 1 = 0 ∧ u = M) := by
  refine Cx.ofI (own := RX8) hls (by decide +kernel) rfl rfl (fun B => Nat.le_of_ble_eq_true rfl) ?_
  intro pp ee ss mm aa bb me c9 DD ca B Tl AA QQ F K KT KN
  show G pp l ee rmX8_restore ss mm aa bb me c9 QQ DD ca B Tl AA 3 0 0 M 0 [(0, .ref (B + 0)), (1, .int x)] []
  refine g_aload_n F dX8_restore_0 rfl 0 rfl ?_
  refine g_iload_n F dX8_restore_1 rfl 1 rfl ?_
  refine x_callV F (kX8_slotNumbered l hls r0 _) (cwV 1 F.1.2.2.2.2 gX8_restore_X8_slotNumbered rfl rfl rfl (by decide +kernel) ⟨Nat.le_of_ble_eq_true rfl, Nat.le_of_ble_eq_true rfl⟩) r0 (by decide) rfl rfl rfl rfl (Nat.le_of_ble_eq_true rfl) dX8_restore_2 ⟨Nat.le_of_ble_eq_true rfl, Nat.le_of_ble_eq_true rfl⟩ (fun v9 u9 h9 => ?_) (fun E9 u9 x9 => KT E9 u9 _ _ _ _ (Nat.le_of_ble_eq_true rfl) (Nat.le_of_ble_eq_true rfl) (Or.inl x9))
  obtain ⟨s, hs, e4, rfl, e6⟩ := h9
  obtain rfl := e6.symm
  obtain ⟨n, hn20, hn⟩ := hK s hs
  refine g_astore_n F (lv2 := [(2, _), (0, _), (1, _)]) dX8_restore_5 rfl (by decide) rfl ?_
  refine g_aload_n F dX8_restore_6 rfl 0 rfl ?_
  refine gg7_filled F iX8_restore_7 (isR_slot hs) (by decide +kernel) dX8_restore_7 ?_
  refine g_if_ne F 24 dX8_restore_10 (by decide) (fun h1 => ?_) (fun h1 => ?_)
  · refine g_aload_n F dX8_restore_24 rfl 1 rfl ?_
    refine gg8_history F iX8_restore_8 r0 (by decide +kernel) dX8_restore_25 ?_
    refine g_aload_n F dX8_restore_28 rfl 1 rfl ?_
    refine gg8_now F iX8_restore_8 r0 (by decide +kernel) dX8_restore_29 ?_
    refine g_callV F (kX2_record l (n := h) r1 (by decide) hS hh6 hh) (cwV 1 F.1.2.2.2.2 gX8_restore_X2_record rfl rfl rfl (by decide +kernel) ⟨Nat.le_of_ble_eq_true rfl, Nat.le_of_ble_eq_true rfl⟩) r141 (by decide) rfl rfl rfl rfl (Nat.le_of_ble_eq_true rfl) dX8_restore_32 ⟨Nat.le_of_ble_eq_true rfl, Nat.le_of_ble_eq_true rfl⟩ (g_det ?_)
    refine g_aload_n F dX8_restore_35 rfl 1 rfl ?_
    refine gg8_now F iX8_restore_8 r0 (by decide +kernel) dX8_restore_36 ?_
    refine g_aload_n F dX8_restore_39 rfl 0 rfl ?_
    refine gg7_kept F iX8_restore_7 (isR_slot hs) (by decide +kernel) dX8_restore_40 ?_
    refine g_callV F (kX6_copyFrom l r1 (sb7 (isR_slot hs)) (by omega)) (cwV 1 F.1.2.2.2.2 gX8_restore_X6_copyFrom rfl rfl rfl (by decide +kernel) ⟨Nat.le_of_ble_eq_true rfl, Nat.le_of_ble_eq_true rfl⟩) r1 (by decide) rfl rfl rfl rfl (Nat.le_of_ble_eq_true rfl) dX8_restore_43 ⟨Nat.le_of_ble_eq_true rfl, Nat.le_of_ble_eq_true rfl⟩ (g_det ?_)
    refine g_aload_n F dX8_restore_46 rfl 1 rfl ?_
    refine gg8_now F iX8_restore_8 r0 (by decide +kernel) dX8_restore_47 ?_
    refine g_callV F (kX6_standingCount l (M := (cpR (recM M h 1) 1 (567 + 71 * s + 1))) r1 n (by rw [cpR_in (by omega), Nat.sub_self]; exact (congrFun (recM_o (by omega) hS) 5).trans hn) hn20) (cwV 0 F.1.2.2.2.2 gX8_restore_X6_standingCount rfl rfl rfl (by decide +kernel) ⟨Nat.le_of_ble_eq_true rfl, Nat.le_of_ble_eq_true rfl⟩) r1 (by decide) rfl rfl rfl rfl (Nat.le_of_ble_eq_true rfl) dX8_restore_50 ⟨Nat.le_of_ble_eq_true rfl, Nat.le_of_ble_eq_true rfl⟩ (g_det ?_)
    refine g_widen (k := rmX8_restore.cells) (n := rmX8_restore.slots) (Nat.le_of_ble_eq_true rfl) (Nat.le_of_ble_eq_true rfl) ?_
    exact K _ _ _ _ dX8_restore_53 rfl ⟨s, hs, e4, h1, n, hn20, hn, rfl, rfl⟩
  · exact KN "java/lang/IllegalStateException" "nothing was saved in this slot" 120 301 124 _ _ _ _ _ _ (by decide +kernel) (by decide +kernel) (by decide +kernel) (by decide +kernel) (by decide +kernel) (by decide +kernel) (by decide +kernel) (by decide +kernel) dX8_restore_13 dX8_restore_16 (Or.inr ⟨dX8_restore_17, dX8_restore_20, dX8_restore_23⟩) (Nat.le_of_ble_eq_true rfl) (Nat.le_of_ble_eq_true rfl) (Nat.le_of_ble_eq_true rfl) (Nat.le_of_ble_eq_true rfl) (Nat.le_refl _) (Nat.le_refl _) (Or.inr ⟨rfl, s, hs, e4, h1, rfl⟩)

abbrev rmX8_setGrey : Room := { frames := 7, cells := 1, slots := 6, locals := 145 }
theorem iX8_setGrey_8 : ∀ w ∈ u_ws RX8 TX8 6, w ∈ wsX8_setGrey := by decide +kernel
set_option maxHeartbeats 4000000 in
set_option maxRecDepth 100000 in
theorem kX8_setGrey (l : Launch) (hls : l.stackTraces = false) {M : Mm} {h : Nat} (hS : hsS (M 142)) (hh6 : h ≤ 6) (hh : M 141 1 = nI h) (x y : Int32) : Cx l yX8_setGrey wsX8_setGrey rmX8_setGrey (fun B => [.ref (B + 0), .int x, .int y]) M (fun _ v u => ((0 ≤ x ∧ x ≤ 23) ∧ (0 ≤ y ∧ y ≤ 4)) ∧ v = some (.int (gyF ((recM M h 1) (1 + 4)) x)) ∧ u = va_up (recM M h 1) (1 + 4) (cgF ((recM M h 1) (1 + 4)) x y)) (fun E u => E = xA ∧ ¬ ((0 ≤ x ∧ x ≤ 23) ∧ (0 ≤ y ∧ y ≤ 4)) ∧ u = M) := by
  refine Cx.ofI (own := RX8) hls (by decide +kernel) rfl rfl (fun B => Nat.le_of_ble_eq_true rfl) ?_
  intro pp ee ss mm aa bb me c9 DD ca B Tl AA QQ F K KT KN
  show G pp l ee rmX8_setGrey ss mm aa bb me c9 QQ DD ca B Tl AA 4 0 0 M 0 [(0, .ref (B + 0)), (1, .int x), (2, .int y)] []
  refine g_iload_n F dX8_setGrey_0 rfl 1 rfl ?_
  refine g_iconst F (v := 0) dX8_setGrey_1 (by decide) ?_
  refine g_bipush F (v := 23) dX8_setGrey_2 (by decide +kernel) ?_
  refine g_callS F (kX8_isWithin l _ _ _) (va_cwS 3 F.1.2.2.2.2 gX8_setGrey_X8_isWithin rfl rfl rfl (by decide +kernel) ⟨Nat.le_of_ble_eq_true rfl, Nat.le_of_ble_eq_true rfl⟩) rfl rfl rfl (Nat.le_of_ble_eq_true rfl) dX8_setGrey_4 ⟨Nat.le_of_ble_eq_true rfl, Nat.le_of_ble_eq_true rfl⟩ (g_det ?_)
  refine g_ifB_eq F 23 dX8_setGrey_7 (by decide) (fun h1 => ?_) (fun h1 => ?_)
  · refine g_iconst F (v := 0) dX8_setGrey_23 (by decide) ?_
    refine x_callS F (kX8_demand l hls _) (va_cwS 1 F.1.2.2.2.2 gX8_setGrey_X8_demand rfl rfl rfl (by decide +kernel) ⟨Nat.le_of_ble_eq_true rfl, Nat.le_of_ble_eq_true rfl⟩) rfl rfl rfl (Nat.le_of_ble_eq_true rfl) dX8_setGrey_24 ⟨Nat.le_of_ble_eq_true rfl, Nat.le_of_ble_eq_true rfl⟩ (fun v9 u9 h9 => absurd rfl h9.1) (fun E9 u9 x9 => KT E9 u9 _ _ _ _ (Nat.le_of_ble_eq_true rfl) (Nat.le_of_ble_eq_true rfl) ⟨x9.1, (by first | exact fun z => h1 z.1 | exact fun z => h2 z.2), x9.2.2⟩)
  · refine g_iload_n F dX8_setGrey_10 rfl 2 rfl ?_
    refine g_iconst F (v := 0) dX8_setGrey_11 (by decide) ?_
    refine g_iconst F (v := 4) dX8_setGrey_12 (by decide) ?_
    refine g_callS F (kX8_isWithin l _ _ _) (va_cwS 3 F.1.2.2.2.2 gX8_setGrey_X8_isWithin rfl rfl rfl (by decide +kernel) ⟨Nat.le_of_ble_eq_true rfl, Nat.le_of_ble_eq_true rfl⟩) rfl rfl rfl (Nat.le_of_ble_eq_true rfl) dX8_setGrey_13 ⟨Nat.le_of_ble_eq_true rfl, Nat.le_of_ble_eq_true rfl⟩ (g_det ?_)
    refine g_ifB_eq F 23 dX8_setGrey_16 (by decide) (fun h2 => ?_) (fun h2 => ?_)
    · refine g_iconst F (v := 0) dX8_setGrey_23 (by decide) ?_
      refine x_callS F (kX8_demand l hls _) (va_cwS 1 F.1.2.2.2.2 gX8_setGrey_X8_demand rfl rfl rfl (by decide +kernel) ⟨Nat.le_of_ble_eq_true rfl, Nat.le_of_ble_eq_true rfl⟩) rfl rfl rfl (Nat.le_of_ble_eq_true rfl) dX8_setGrey_24 ⟨Nat.le_of_ble_eq_true rfl, Nat.le_of_ble_eq_true rfl⟩ (fun v9 u9 h9 => absurd rfl h9.1) (fun E9 u9 x9 => KT E9 u9 _ _ _ _ (Nat.le_of_ble_eq_true rfl) (Nat.le_of_ble_eq_true rfl) ⟨x9.1, (by first | exact fun z => h1 z.1 | exact fun z => h2 z.2), x9.2.2⟩)
    · refine g_iconst F (v := 1) dX8_setGrey_19 (by decide) ?_
      refine g_goto F 24 dX8_setGrey_20 (by decide) ?_
      refine x_callS F (kX8_demand l hls _) (va_cwS 1 F.1.2.2.2.2 gX8_setGrey_X8_demand rfl rfl rfl (by decide +kernel) ⟨Nat.le_of_ble_eq_true rfl, Nat.le_of_ble_eq_true rfl⟩) rfl rfl rfl (Nat.le_of_ble_eq_true rfl) dX8_setGrey_24 ⟨Nat.le_of_ble_eq_true rfl, Nat.le_of_ble_eq_true rfl⟩ (fun v9 u9 h9 => ?_) (fun E9 u9 x9 => absurd x9.2.1 (by decide))
      obtain ⟨-, rfl, e6⟩ := h9
      obtain rfl := e6.symm
      refine g_aload_n F dX8_setGrey_27 rfl 0 rfl ?_
      refine gg8_history F iX8_setGrey_8 r0 (by decide +kernel) dX8_setGrey_28 ?_
      refine g_aload_n F dX8_setGrey_31 rfl 0 rfl ?_
      refine gg8_now F iX8_setGrey_8 r0 (by decide +kernel) dX8_setGrey_32 ?_
      refine g_callV F (kX2_record l (n := h) r1 (by decide) hS hh6 hh) (cwV 1 F.1.2.2.2.2 gX8_setGrey_X2_record rfl rfl rfl (by decide +kernel) ⟨Nat.le_of_ble_eq_true rfl, Nat.le_of_ble_eq_true rfl⟩) r141 (by decide) rfl rfl rfl rfl (Nat.le_of_ble_eq_true rfl) dX8_setGrey_35 ⟨Nat.le_of_ble_eq_true rfl, Nat.le_of_ble_eq_true rfl⟩ (g_det ?_)
      refine g_aload_n F dX8_setGrey_38 rfl 0 rfl ?_
      refine gg8_now F iX8_setGrey_8 r0 (by decide +kernel) dX8_setGrey_39 ?_
      refine g_iload_n F dX8_setGrey_42 rfl 1 rfl ?_
      refine g_callV F (kX6_greyInHour l r1 _) (cwV 1 F.1.2.2.2.2 gX8_setGrey_X6_greyInHour rfl rfl rfl (by decide +kernel) ⟨Nat.le_of_ble_eq_true rfl, Nat.le_of_ble_eq_true rfl⟩) r1 (by decide) rfl rfl rfl rfl (Nat.le_of_ble_eq_true rfl) dX8_setGrey_43 ⟨Nat.le_of_ble_eq_true rfl, Nat.le_of_ble_eq_true rfl⟩ (g_det ?_)
      refine g_istore_n F (lv2 := [(3, _), (0, _), (1, _), (2, _)]) dX8_setGrey_46 rfl (by decide) rfl ?_
      refine g_aload_n F dX8_setGrey_47 rfl 1 rfl ?_
      refine gg8_now F iX8_setGrey_8 r0 (by decide +kernel) dX8_setGrey_48 ?_
      refine g_iload_n F dX8_setGrey_51 rfl 2 rfl ?_
      refine g_iload_n F dX8_setGrey_52 rfl 3 rfl ?_
      refine g_callV F (kX6_changeGrey l r1 _ _) (cwV 2 F.1.2.2.2.2 gX8_setGrey_X6_changeGrey rfl rfl rfl (by decide +kernel) ⟨Nat.le_of_ble_eq_true rfl, Nat.le_of_ble_eq_true rfl⟩) r1 (by decide) rfl rfl rfl rfl (Nat.le_of_ble_eq_true rfl) dX8_setGrey_53 ⟨Nat.le_of_ble_eq_true rfl, Nat.le_of_ble_eq_true rfl⟩ (g_det ?_)
      refine g_iload_n F dX8_setGrey_56 rfl 0 rfl ?_
      refine g_widen (k := rmX8_setGrey.cells) (n := rmX8_setGrey.slots) (Nat.le_of_ble_eq_true rfl) (Nat.le_of_ble_eq_true rfl) ?_
      exact K _ _ _ _ dX8_setGrey_57 rfl ⟨⟨h1, h2⟩, rfl, rfl⟩

abbrev rmX8_setLimit : Room := { frames := 7, cells := 1, slots := 6, locals := 145 }
theorem iX8_setLimit_6 : ∀ w ∈ u_ws RX6 TX6 10, w ∈ wsX8_setLimit := by decide +kernel
theorem iX8_setLimit_8 : ∀ w ∈ u_ws RX8 TX8 6, w ∈ wsX8_setLimit := by decide +kernel
set_option maxHeartbeats 4000000 in
set_option maxRecDepth 100000 in
theorem kX8_setLimit (l : Launch) (hls : l.stackTraces = false) {M : Mm} {h : Nat} (hS : hsS (M 142)) (hh6 : h ≤ 6) (hh : M 141 1 = nI h) (x y : Int32) : Cx l yX8_setLimit wsX8_setLimit rmX8_setLimit (fun B => [.ref (B + 0), .int x, .int y]) M (fun _ v u => ((1 ≤ x ∧ x ≤ 5) ∧ (1 ≤ y ∧ y ≤ 8)) ∧ v = some (.int ((recM M h 1) 1 6)) ∧ u = va_up (recM M h 1) 1 (upd (upd ((recM M h 1) 1) 6 x) 7 y)) (fun E u => E = xA ∧ ¬ ((1 ≤ x ∧ x ≤ 5) ∧ (1 ≤ y ∧ y ≤ 8)) ∧ u = M) := by
  refine Cx.ofI (own := RX8) hls (by decide +kernel) rfl rfl (fun B => Nat.le_of_ble_eq_true rfl) ?_
  intro pp ee ss mm aa bb me c9 DD ca B Tl AA QQ F K KT KN
  show G pp l ee rmX8_setLimit ss mm aa bb me c9 QQ DD ca B Tl AA 4 0 0 M 0 [(0, .ref (B + 0)), (1, .int x), (2, .int y)] []
  refine g_iload_n F dX8_setLimit_0 rfl 1 rfl ?_
  refine g_iconst F (v := 1) dX8_setLimit_1 (by decide) ?_
  refine g_iconst F (v := 5) dX8_setLimit_2 (by decide) ?_
  refine g_callS F (kX8_isWithin l _ _ _) (va_cwS 3 F.1.2.2.2.2 gX8_setLimit_X8_isWithin rfl rfl rfl (by decide +kernel) ⟨Nat.le_of_ble_eq_true rfl, Nat.le_of_ble_eq_true rfl⟩) rfl rfl rfl (Nat.le_of_ble_eq_true rfl) dX8_setLimit_3 ⟨Nat.le_of_ble_eq_true rfl, Nat.le_of_ble_eq_true rfl⟩ (g_det ?_)
  refine g_ifB_eq F 23 dX8_setLimit_6 (by decide) (fun h1 => ?_) (fun h1 => ?_)
  · refine g_iconst F (v := 0) dX8_setLimit_23 (by decide) ?_
    refine x_callS F (kX8_demand l hls _) (va_cwS 1 F.1.2.2.2.2 gX8_setLimit_X8_demand rfl rfl rfl (by decide +kernel) ⟨Nat.le_of_ble_eq_true rfl, Nat.le_of_ble_eq_true rfl⟩) rfl rfl rfl (Nat.le_of_ble_eq_true rfl) dX8_setLimit_24 ⟨Nat.le_of_ble_eq_true rfl, Nat.le_of_ble_eq_true rfl⟩ (fun v9 u9 h9 => absurd rfl h9.1) (fun E9 u9 x9 => KT E9 u9 _ _ _ _ (Nat.le_of_ble_eq_true rfl) (Nat.le_of_ble_eq_true rfl) ⟨x9.1, (by first | exact fun z => h1 z.1 | exact fun z => h2 z.2), x9.2.2⟩)
  · refine g_iload_n F dX8_setLimit_9 rfl 2 rfl ?_
    refine g_iconst F (v := 1) dX8_setLimit_10 (by decide) ?_
    refine g_bipush F (v := 8) dX8_setLimit_11 (by decide +kernel) ?_
    refine g_callS F (kX8_isWithin l _ _ _) (va_cwS 3 F.1.2.2.2.2 gX8_setLimit_X8_isWithin rfl rfl rfl (by decide +kernel) ⟨Nat.le_of_ble_eq_true rfl, Nat.le_of_ble_eq_true rfl⟩) rfl rfl rfl (Nat.le_of_ble_eq_true rfl) dX8_setLimit_13 ⟨Nat.le_of_ble_eq_true rfl, Nat.le_of_ble_eq_true rfl⟩ (g_det ?_)
    refine g_ifB_eq F 23 dX8_setLimit_16 (by decide) (fun h2 => ?_) (fun h2 => ?_)
    · refine g_iconst F (v := 0) dX8_setLimit_23 (by decide) ?_
      refine x_callS F (kX8_demand l hls _) (va_cwS 1 F.1.2.2.2.2 gX8_setLimit_X8_demand rfl rfl rfl (by decide +kernel) ⟨Nat.le_of_ble_eq_true rfl, Nat.le_of_ble_eq_true rfl⟩) rfl rfl rfl (Nat.le_of_ble_eq_true rfl) dX8_setLimit_24 ⟨Nat.le_of_ble_eq_true rfl, Nat.le_of_ble_eq_true rfl⟩ (fun v9 u9 h9 => absurd rfl h9.1) (fun E9 u9 x9 => KT E9 u9 _ _ _ _ (Nat.le_of_ble_eq_true rfl) (Nat.le_of_ble_eq_true rfl) ⟨x9.1, (by first | exact fun z => h1 z.1 | exact fun z => h2 z.2), x9.2.2⟩)
    · refine g_iconst F (v := 1) dX8_setLimit_19 (by decide) ?_
      refine g_goto F 24 dX8_setLimit_20 (by decide) ?_
      refine x_callS F (kX8_demand l hls _) (va_cwS 1 F.1.2.2.2.2 gX8_setLimit_X8_demand rfl rfl rfl (by decide +kernel) ⟨Nat.le_of_ble_eq_true rfl, Nat.le_of_ble_eq_true rfl⟩) rfl rfl rfl (Nat.le_of_ble_eq_true rfl) dX8_setLimit_24 ⟨Nat.le_of_ble_eq_true rfl, Nat.le_of_ble_eq_true rfl⟩ (fun v9 u9 h9 => ?_) (fun E9 u9 x9 => absurd x9.2.1 (by decide))
      obtain ⟨-, rfl, e6⟩ := h9
      obtain rfl := e6.symm
      refine g_aload_n F dX8_setLimit_27 rfl 0 rfl ?_
      refine gg8_history F iX8_setLimit_8 r0 (by decide +kernel) dX8_setLimit_28 ?_
      refine g_aload_n F dX8_setLimit_31 rfl 0 rfl ?_
      refine gg8_now F iX8_setLimit_8 r0 (by decide +kernel) dX8_setLimit_32 ?_
      refine g_callV F (kX2_record l (n := h) r1 (by decide) hS hh6 hh) (cwV 1 F.1.2.2.2.2 gX8_setLimit_X2_record rfl rfl rfl (by decide +kernel) ⟨Nat.le_of_ble_eq_true rfl, Nat.le_of_ble_eq_true rfl⟩) r141 (by decide) rfl rfl rfl rfl (Nat.le_of_ble_eq_true rfl) dX8_setLimit_35 ⟨Nat.le_of_ble_eq_true rfl, Nat.le_of_ble_eq_true rfl⟩ (g_det ?_)
      refine g_aload_n F dX8_setLimit_38 rfl 0 rfl ?_
      refine gg8_now F iX8_setLimit_8 r0 (by decide +kernel) dX8_setLimit_39 ?_
      refine gg6_limit F iX8_setLimit_6 r1 (by decide +kernel) dX8_setLimit_42 ?_
      refine g_istore_n F (lv2 := [(3, _), (0, _), (1, _), (2, _)]) dX8_setLimit_45 rfl (by decide) rfl ?_
      refine g_aload_n F dX8_setLimit_46 rfl 1 rfl ?_
      refine gg8_now F iX8_setLimit_8 r0 (by decide +kernel) dX8_setLimit_47 ?_
      refine g_iload_n F dX8_setLimit_50 rfl 2 rfl ?_
      refine gp6_limit F iX8_setLimit_6 r1 (by decide +kernel) dX8_setLimit_51 ?_
      refine g_aload_n F dX8_setLimit_54 rfl 1 rfl ?_
      refine gg8_now F iX8_setLimit_8 r0 (by decide +kernel) dX8_setLimit_55 ?_
      refine g_iload_n F dX8_setLimit_58 rfl 3 rfl ?_
      refine gp6_patience F iX8_setLimit_6 r1 (by decide +kernel) dX8_setLimit_59 ?_
      refine g_iload_n F dX8_setLimit_62 rfl 0 rfl ?_
      refine g_widen (k := rmX8_setLimit.cells) (n := rmX8_setLimit.slots) (Nat.le_of_ble_eq_true rfl) (Nat.le_of_ble_eq_true rfl) ?_
      exact K _ _ _ _ dX8_setLimit_63 rfl ⟨⟨h1, h2⟩, rfl, by rw [bx_uu, va_up_self]⟩

abbrev rmX8_pass : Room := { frames := 7, cells := 1, slots := 6, locals := 145 }
theorem iX8_pass_8 : ∀ w ∈ u_ws RX8 TX8 6, w ∈ wsX8_pass := by decide +kernel
set_option maxHeartbeats 4000000 in
set_option maxRecDepth 100000 in
theorem kX8_pass (l : Launch) (hls : l.stackTraces = false) {M : Mm} {h : Nat} (hS : hsS (M 142)) (hh6 : h ≤ 6) (hh : M 141 1 = nI h) (hJ : CJ M 1) (x : Int32) : Cx l yX8_pass wsX8_pass rmX8_pass (fun B => [.ref (B + 0), .int x]) M (fun _ v u => ∃ k, 1 ≤ k ∧ k ≤ 200 ∧ x = nI k ∧ v = some (.int (itF (recM M h 1) 1 k 1 5 - (recM M h 1) 1 5)) ∧ u = itF (recM M h 1) 1 k) (fun E u => E = xA ∧ ¬ (1 ≤ x ∧ x ≤ 200) ∧ u = M) := by
  refine Cx.ofI (own := RX8) hls (by decide +kernel) rfl rfl (fun B => Nat.le_of_ble_eq_true rfl) ?_
  intro pp ee ss mm aa bb me c9 DD ca B Tl AA QQ F K KT KN
  show G pp l ee rmX8_pass ss mm aa bb me c9 QQ DD ca B Tl AA 2 0 0 M 0 [(0, .ref (B + 0)), (1, .int x)] []
  refine g_iload_n F dX8_pass_0 rfl 1 rfl ?_
  refine g_iconst F (v := 1) dX8_pass_1 (by decide) ?_
  refine g_sipush F (v := 200) dX8_pass_2 (by decide +kernel) ?_
  refine g_callS F (kX8_isWithin l _ _ _) (va_cwS 3 F.1.2.2.2.2 gX8_pass_X8_isWithin rfl rfl rfl (by decide +kernel) ⟨Nat.le_of_ble_eq_true rfl, Nat.le_of_ble_eq_true rfl⟩) rfl rfl rfl (Nat.le_of_ble_eq_true rfl) dX8_pass_5 ⟨Nat.le_of_ble_eq_true rfl, Nat.le_of_ble_eq_true rfl⟩ (g_det ?_)
  refine x_callS F (kX8_demand l hls _) (va_cwS 1 F.1.2.2.2.2 gX8_pass_X8_demand rfl rfl rfl (by decide +kernel) ⟨Nat.le_of_ble_eq_true rfl, Nat.le_of_ble_eq_true rfl⟩) rfl rfl rfl (Nat.le_of_ble_eq_true rfl) dX8_pass_8 ⟨Nat.le_of_ble_eq_true rfl, Nat.le_of_ble_eq_true rfl⟩ (fun v9 u9 h9 => ?_) (fun E9 u9 x9 => KT E9 u9 _ _ _ _ (Nat.le_of_ble_eq_true rfl) (Nat.le_of_ble_eq_true rfl) ⟨x9.1, b2i_0 x9.2.1, x9.2.2⟩)
  obtain ⟨hd9, rfl, e6⟩ := h9
  obtain rfl := e6.symm
  replace hd9 := b2i_n0 hd9
  obtain ⟨k, hk1, hk2, rfl⟩ := of_rng (n := 200) (by decide) hd9
  refine g_aload_n F dX8_pass_11 rfl 0 rfl ?_
  refine gg8_history F iX8_pass_8 r0 (by decide +kernel) dX8_pass_12 ?_
  refine g_aload_n F dX8_pass_15 rfl 0 rfl ?_
  refine gg8_now F iX8_pass_8 r0 (by decide +kernel) dX8_pass_16 ?_
  refine g_callV F (kX2_record l (n := h) r1 (by decide) hS hh6 hh) (cwV 1 F.1.2.2.2.2 gX8_pass_X2_record rfl rfl rfl (by decide +kernel) ⟨Nat.le_of_ble_eq_true rfl, Nat.le_of_ble_eq_true rfl⟩) r141 (by decide) rfl rfl rfl rfl (Nat.le_of_ble_eq_true rfl) dX8_pass_19 ⟨Nat.le_of_ble_eq_true rfl, Nat.le_of_ble_eq_true rfl⟩ (g_det ?_)
  refine g_aload_n F dX8_pass_22 rfl 0 rfl ?_
  refine gg8_now F iX8_pass_8 r0 (by decide +kernel) dX8_pass_23 ?_
  refine g_iload_n F dX8_pass_26 rfl 1 rfl ?_
  refine g_callV F (kX6_passTicks l r1 (k := k) (by omega) (recM_CJ hS hJ)) (cwV 1 F.1.2.2.2.2 gX8_pass_X6_passTicks rfl rfl rfl (by decide +kernel) ⟨Nat.le_of_ble_eq_true rfl, Nat.le_of_ble_eq_true rfl⟩) r1 (by decide) rfl rfl rfl rfl (Nat.le_of_ble_eq_true rfl) dX8_pass_27 ⟨Nat.le_of_ble_eq_true rfl, Nat.le_of_ble_eq_true rfl⟩ (g_det ?_)
  refine g_widen (k := rmX8_pass.cells) (n := rmX8_pass.slots) (Nat.le_of_ble_eq_true rfl) (Nat.le_of_ble_eq_true rfl) ?_
  exact K _ _ _ _ dX8_pass_30 rfl ⟨k, hk1, hk2, rfl, rfl, rfl⟩

theorem in2x {x : Int32} {k : Nat} (e : x = nI k) (h : k < 3) : 0 ≤ x ∧ x ≤ 2 := e ▸ ⟨nI_pos' (by omega), (nI_leI (a := k) (b := 2) (by omega) (by omega)).mpr (by omega)⟩

abbrev rmX8_watch : Room := { frames := 7, cells := 2, slots := 12, locals := 145 }
theorem iX8_watch_4 : ∀ w ∈ u_ws RX4 TX4 5, w ∈ wsX8_watch := by decide +kernel
theorem iX8_watch_8 : ∀ w ∈ u_ws RX8 TX8 6, w ∈ wsX8_watch := by decide +kernel
set_option maxHeartbeats 4000000 in
set_option maxRecDepth 100000 in
theorem kX8_watch (l : Launch) (hls : l.stackTraces = false) {M : Mm} {h : Nat} (hS : hsS (M 142)) (hh6 : h ≤ 6) (hh : M 141 1 = nI h) (x y : Int32) : Cx l yX8_watch wsX8_watch rmX8_watch (fun B => [.ref (B + 0), .int x, .int y]) M (fun _ v u => ∃ k, k < 3 ∧ x = nI k ∧ (y = -1 ∨ 0 ≤ y ∧ y ≤ 7) ∧ v = some (.int ((recM M h 1) (obP 1 k) 0)) ∧ u = va_up (recM M h 1) (obP 1 k) (upd ((recM M h 1) (obP 1 k)) 0 y)) (fun E u => E = xI ∧ ¬ (0 ≤ x ∧ x ≤ 2) ∧ u = M ∨ E = xA ∧ (0 ≤ x ∧ x ≤ 2) ∧ ¬ (y = -1 ∨ 0 ≤ y ∧ y ≤ 7) ∧ u = M) := by
  refine Cx.ofI (own := RX8) hls (by decide +kernel) rfl rfl (fun B => Nat.le_of_ble_eq_true rfl) ?_
  intro pp ee ss mm aa bb me c9 DD ca B Tl AA QQ F K KT KN
  show G pp l ee rmX8_watch ss mm aa bb me c9 QQ DD ca B Tl AA 5 0 0 M 0 [(0, .ref (B + 0)), (1, .int x), (2, .int y)] []
  refine g_aload_n F dX8_watch_0 rfl 0 rfl ?_
  refine g_iload_n F dX8_watch_1 rfl 1 rfl ?_
  refine x_callV F (kX8_observerNow l hls r0 _) (cwV 1 F.1.2.2.2.2 gX8_watch_X8_observerNow rfl rfl rfl (by decide +kernel) ⟨Nat.le_of_ble_eq_true rfl, Nat.le_of_ble_eq_true rfl⟩) r0 (by decide) rfl rfl rfl rfl (Nat.le_of_ble_eq_true rfl) dX8_watch_2 ⟨Nat.le_of_ble_eq_true rfl, Nat.le_of_ble_eq_true rfl⟩ (fun v9 u9 h9 => ?_) (fun E9 u9 x9 => KT E9 u9 _ _ _ _ (Nat.le_of_ble_eq_true rfl) (Nat.le_of_ble_eq_true rfl) (Or.inl x9))
  obtain ⟨k, hk, e8, rfl, e6⟩ := h9
  obtain rfl := e6.symm
  refine g_astore_n F (lv2 := [(3, _), (0, _), (1, _), (2, _)]) dX8_watch_5 rfl (by decide) rfl ?_
  refine g_iload_n F dX8_watch_6 rfl 3 rfl ?_
  refine g_iconst F (v := -1) dX8_watch_7 (by decide) ?_
  refine g_icmp_eq F 21 dX8_watch_8 (by decide) (fun h1 => ?_) (fun h1 => ?_)
  · refine g_iconst F (v := 1) dX8_watch_21 (by decide) ?_
    refine g_goto F 26 dX8_watch_22 (by decide) ?_
    refine x_callS F (kX8_demand l hls _) (va_cwS 1 F.1.2.2.2.2 gX8_watch_X8_demand rfl rfl rfl (by decide +kernel) ⟨Nat.le_of_ble_eq_true rfl, Nat.le_of_ble_eq_true rfl⟩) rfl rfl rfl (Nat.le_of_ble_eq_true rfl) dX8_watch_26 ⟨Nat.le_of_ble_eq_true rfl, Nat.le_of_ble_eq_true rfl⟩ (fun v9 u9 h9 => ?_) (fun E9 u9 x9 => absurd x9.2.1 (by decide))
    obtain ⟨-, rfl, e6⟩ := h9
    obtain rfl := e6.symm
    refine g_aload_n F dX8_watch_29 rfl 1 rfl ?_
    refine gg8_history F iX8_watch_8 r0 (by decide +kernel) dX8_watch_30 ?_
    refine g_aload_n F dX8_watch_33 rfl 1 rfl ?_
    refine gg8_now F iX8_watch_8 r0 (by decide +kernel) dX8_watch_34 ?_
    refine g_callV F (kX2_record l (n := h) r1 (by decide) hS hh6 hh) (cwV 1 F.1.2.2.2.2 gX8_watch_X2_record rfl rfl rfl (by decide +kernel) ⟨Nat.le_of_ble_eq_true rfl, Nat.le_of_ble_eq_true rfl⟩) r141 (by decide) rfl rfl rfl rfl (Nat.le_of_ble_eq_true rfl) dX8_watch_37 ⟨Nat.le_of_ble_eq_true rfl, Nat.le_of_ble_eq_true rfl⟩ (g_det ?_)
    refine g_aload_n F dX8_watch_40 rfl 0 rfl ?_
    refine gg4_watched F iX8_watch_4 (el14 (sb6 r1).2.1 hk) (by decide +kernel) dX8_watch_41 ?_
    refine g_istore F (lv2 := [(4, _), (3, _), (0, _), (1, _), (2, _)]) dX8_watch_44 (by decide) rfl ?_
    refine g_aload_n F dX8_watch_46 rfl 1 rfl ?_
    refine g_iload_n F dX8_watch_47 rfl 4 rfl ?_
    refine gp4_watched F iX8_watch_4 (el14 (sb6 r1).2.1 hk) (by decide +kernel) dX8_watch_48 ?_
    refine g_iload F dX8_watch_51 0 rfl ?_
    refine g_widen (k := rmX8_watch.cells) (n := rmX8_watch.slots) (Nat.le_of_ble_eq_true rfl) (Nat.le_of_ble_eq_true rfl) ?_
    exact K _ _ _ _ dX8_watch_53 rfl ⟨k, hk, e8, by first | exact Or.inl h1 | exact Or.inr h2, rfl, rfl⟩
  · refine g_iload_n F dX8_watch_11 rfl 3 rfl ?_
    refine g_iconst F (v := 0) dX8_watch_12 (by decide) ?_
    refine g_bipush F (v := 7) dX8_watch_13 (by decide +kernel) ?_
    refine g_callS F (kX8_isWithin l _ _ _) (va_cwS 3 F.1.2.2.2.2 gX8_watch_X8_isWithin rfl rfl rfl (by decide +kernel) ⟨Nat.le_of_ble_eq_true rfl, Nat.le_of_ble_eq_true rfl⟩) rfl rfl rfl (Nat.le_of_ble_eq_true rfl) dX8_watch_15 ⟨Nat.le_of_ble_eq_true rfl, Nat.le_of_ble_eq_true rfl⟩ (g_det ?_)
    refine g_ifB_eq F 25 dX8_watch_18 (by decide) (fun h2 => ?_) (fun h2 => ?_)
    · refine g_iconst F (v := 0) dX8_watch_25 (by decide) ?_
      refine x_callS F (kX8_demand l hls _) (va_cwS 1 F.1.2.2.2.2 gX8_watch_X8_demand rfl rfl rfl (by decide +kernel) ⟨Nat.le_of_ble_eq_true rfl, Nat.le_of_ble_eq_true rfl⟩) rfl rfl rfl (Nat.le_of_ble_eq_true rfl) dX8_watch_26 ⟨Nat.le_of_ble_eq_true rfl, Nat.le_of_ble_eq_true rfl⟩ (fun v9 u9 h9 => absurd rfl h9.1) (fun E9 u9 x9 => KT E9 u9 _ _ _ _ (Nat.le_of_ble_eq_true rfl) (Nat.le_of_ble_eq_true rfl) (Or.inr ⟨x9.1, in2x e8 hk, fun z => z.elim h1 h2, x9.2.2⟩))
    · refine g_iconst F (v := 1) dX8_watch_21 (by decide) ?_
      refine g_goto F 26 dX8_watch_22 (by decide) ?_
      refine x_callS F (kX8_demand l hls _) (va_cwS 1 F.1.2.2.2.2 gX8_watch_X8_demand rfl rfl rfl (by decide +kernel) ⟨Nat.le_of_ble_eq_true rfl, Nat.le_of_ble_eq_true rfl⟩) rfl rfl rfl (Nat.le_of_ble_eq_true rfl) dX8_watch_26 ⟨Nat.le_of_ble_eq_true rfl, Nat.le_of_ble_eq_true rfl⟩ (fun v9 u9 h9 => ?_) (fun E9 u9 x9 => absurd x9.2.1 (by decide))
      obtain ⟨-, rfl, e6⟩ := h9
      obtain rfl := e6.symm
      refine g_aload_n F dX8_watch_29 rfl 1 rfl ?_
      refine gg8_history F iX8_watch_8 r0 (by decide +kernel) dX8_watch_30 ?_
      refine g_aload_n F dX8_watch_33 rfl 1 rfl ?_
      refine gg8_now F iX8_watch_8 r0 (by decide +kernel) dX8_watch_34 ?_
      refine g_callV F (kX2_record l (n := h) r1 (by decide) hS hh6 hh) (cwV 1 F.1.2.2.2.2 gX8_watch_X2_record rfl rfl rfl (by decide +kernel) ⟨Nat.le_of_ble_eq_true rfl, Nat.le_of_ble_eq_true rfl⟩) r141 (by decide) rfl rfl rfl rfl (Nat.le_of_ble_eq_true rfl) dX8_watch_37 ⟨Nat.le_of_ble_eq_true rfl, Nat.le_of_ble_eq_true rfl⟩ (g_det ?_)
      refine g_aload_n F dX8_watch_40 rfl 0 rfl ?_
      refine gg4_watched F iX8_watch_4 (el14 (sb6 r1).2.1 hk) (by decide +kernel) dX8_watch_41 ?_
      refine g_istore F (lv2 := [(4, _), (3, _), (0, _), (1, _), (2, _)]) dX8_watch_44 (by decide) rfl ?_
      refine g_aload_n F dX8_watch_46 rfl 1 rfl ?_
      refine g_iload_n F dX8_watch_47 rfl 4 rfl ?_
      refine gp4_watched F iX8_watch_4 (el14 (sb6 r1).2.1 hk) (by decide +kernel) dX8_watch_48 ?_
      refine g_iload F dX8_watch_51 0 rfl ?_
      refine g_widen (k := rmX8_watch.cells) (n := rmX8_watch.slots) (Nat.le_of_ble_eq_true rfl) (Nat.le_of_ble_eq_true rfl) ?_
      exact K _ _ _ _ dX8_watch_53 rfl ⟨k, hk, e8, by first | exact Or.inl h1 | exact Or.inr h2, rfl, rfl⟩

abbrev rmX8_setBias : Room := { frames := 7, cells := 2, slots := 12, locals := 145 }
theorem iX8_setBias_4 : ∀ w ∈ u_ws RX4 TX4 5, w ∈ wsX8_setBias := by decide +kernel
theorem iX8_setBias_8 : ∀ w ∈ u_ws RX8 TX8 6, w ∈ wsX8_setBias := by decide +kernel
set_option maxHeartbeats 4000000 in
set_option maxRecDepth 100000 in
theorem kX8_setBias (l : Launch) (hls : l.stackTraces = false) {M : Mm} {h : Nat} (hS : hsS (M 142)) (hh6 : h ≤ 6) (hh : M 141 1 = nI h) (x y : Int32) : Cx l yX8_setBias wsX8_setBias rmX8_setBias (fun B => [.ref (B + 0), .int x, .int y]) M (fun _ v u => ∃ k, k < 3 ∧ x = nI k ∧ (-1 ≤ y ∧ y ≤ 1) ∧ v = some (.int ((recM M h 1) (obP 1 k) 1 + 1)) ∧ u = va_up (recM M h 1) (obP 1 k) (upd ((recM M h 1) (obP 1 k)) 1 y)) (fun E u => E = xI ∧ ¬ (0 ≤ x ∧ x ≤ 2) ∧ u = M ∨ E = xA ∧ (0 ≤ x ∧ x ≤ 2) ∧ ¬ (-1 ≤ y ∧ y ≤ 1) ∧ u = M) := by
  refine Cx.ofI (own := RX8) hls (by decide +kernel) rfl rfl (fun B => Nat.le_of_ble_eq_true rfl) ?_
  intro pp ee ss mm aa bb me c9 DD ca B Tl AA QQ F K KT KN
  show G pp l ee rmX8_setBias ss mm aa bb me c9 QQ DD ca B Tl AA 5 0 0 M 0 [(0, .ref (B + 0)), (1, .int x), (2, .int y)] []
  refine g_aload_n F dX8_setBias_0 rfl 0 rfl ?_
  refine g_iload_n F dX8_setBias_1 rfl 1 rfl ?_
  refine x_callV F (kX8_observerNow l hls r0 _) (cwV 1 F.1.2.2.2.2 gX8_setBias_X8_observerNow rfl rfl rfl (by decide +kernel) ⟨Nat.le_of_ble_eq_true rfl, Nat.le_of_ble_eq_true rfl⟩) r0 (by decide) rfl rfl rfl rfl (Nat.le_of_ble_eq_true rfl) dX8_setBias_2 ⟨Nat.le_of_ble_eq_true rfl, Nat.le_of_ble_eq_true rfl⟩ (fun v9 u9 h9 => ?_) (fun E9 u9 x9 => KT E9 u9 _ _ _ _ (Nat.le_of_ble_eq_true rfl) (Nat.le_of_ble_eq_true rfl) (Or.inl x9))
  obtain ⟨k, hk, e8, rfl, e6⟩ := h9
  obtain rfl := e6.symm
  refine g_astore_n F (lv2 := [(3, _), (0, _), (1, _), (2, _)]) dX8_setBias_5 rfl (by decide) rfl ?_
  refine g_iload_n F dX8_setBias_6 rfl 3 rfl ?_
  refine g_iconst F (v := -1) dX8_setBias_7 (by decide) ?_
  refine g_iconst F (v := 1) dX8_setBias_8 (by decide) ?_
  refine g_callS F (kX8_isWithin l _ _ _) (va_cwS 3 F.1.2.2.2.2 gX8_setBias_X8_isWithin rfl rfl rfl (by decide +kernel) ⟨Nat.le_of_ble_eq_true rfl, Nat.le_of_ble_eq_true rfl⟩) rfl rfl rfl (Nat.le_of_ble_eq_true rfl) dX8_setBias_9 ⟨Nat.le_of_ble_eq_true rfl, Nat.le_of_ble_eq_true rfl⟩ (g_det ?_)
  refine x_callS F (kX8_demand l hls _) (va_cwS 1 F.1.2.2.2.2 gX8_setBias_X8_demand rfl rfl rfl (by decide +kernel) ⟨Nat.le_of_ble_eq_true rfl, Nat.le_of_ble_eq_true rfl⟩) rfl rfl rfl (Nat.le_of_ble_eq_true rfl) dX8_setBias_12 ⟨Nat.le_of_ble_eq_true rfl, Nat.le_of_ble_eq_true rfl⟩ (fun v9 u9 h9 => ?_) (fun E9 u9 x9 => KT E9 u9 _ _ _ _ (Nat.le_of_ble_eq_true rfl) (Nat.le_of_ble_eq_true rfl) (Or.inr ⟨x9.1, in2x e8 hk, b2i_0 x9.2.1, x9.2.2⟩))
  obtain ⟨hd9, rfl, e6⟩ := h9
  obtain rfl := e6.symm
  replace hd9 := b2i_n0 hd9
  refine g_aload_n F dX8_setBias_15 rfl 1 rfl ?_
  refine gg8_history F iX8_setBias_8 r0 (by decide +kernel) dX8_setBias_16 ?_
  refine g_aload_n F dX8_setBias_19 rfl 1 rfl ?_
  refine gg8_now F iX8_setBias_8 r0 (by decide +kernel) dX8_setBias_20 ?_
  refine g_callV F (kX2_record l (n := h) r1 (by decide) hS hh6 hh) (cwV 1 F.1.2.2.2.2 gX8_setBias_X2_record rfl rfl rfl (by decide +kernel) ⟨Nat.le_of_ble_eq_true rfl, Nat.le_of_ble_eq_true rfl⟩) r141 (by decide) rfl rfl rfl rfl (Nat.le_of_ble_eq_true rfl) dX8_setBias_23 ⟨Nat.le_of_ble_eq_true rfl, Nat.le_of_ble_eq_true rfl⟩ (g_det ?_)
  refine g_aload_n F dX8_setBias_26 rfl 0 rfl ?_
  refine gg4_bias F iX8_setBias_4 (el14 (sb6 r1).2.1 hk) (by decide +kernel) dX8_setBias_27 ?_
  refine g_istore F (lv2 := [(4, _), (3, _), (0, _), (1, _), (2, _)]) dX8_setBias_30 (by decide) rfl ?_
  refine g_aload_n F dX8_setBias_32 rfl 1 rfl ?_
  refine g_iload_n F dX8_setBias_33 rfl 4 rfl ?_
  refine gp4_bias F iX8_setBias_4 (el14 (sb6 r1).2.1 hk) (by decide +kernel) dX8_setBias_34 ?_
  refine g_iload F dX8_setBias_37 0 rfl ?_
  refine g_iconst F (v := 1) dX8_setBias_39 (by decide) ?_
  refine g_iadd F dX8_setBias_40 ?_
  refine g_widen (k := rmX8_setBias.cells) (n := rmX8_setBias.slots) (Nat.le_of_ble_eq_true rfl) (Nat.le_of_ble_eq_true rfl) ?_
  exact K _ _ _ _ dX8_setBias_41 rfl ⟨k, hk, e8, hd9, rfl, rfl⟩

abbrev rmX8_setChimney : Room := { frames := 7, cells := 3, slots := 18, locals := 145 }
theorem iX8_setChimney_0 : ∀ w ∈ u_ws RX0 TX0 8, w ∈ wsX8_setChimney := by decide +kernel
theorem iX8_setChimney_6 : ∀ w ∈ u_ws RX6 TX6 10, w ∈ wsX8_setChimney := by decide +kernel
theorem iX8_setChimney_8 : ∀ w ∈ u_ws RX8 TX8 6, w ∈ wsX8_setChimney := by decide +kernel
set_option maxHeartbeats 4000000 in
set_option maxRecDepth 100000 in
theorem kX8_setChimney (l : Launch) (hls : l.stackTraces = false) {M : Mm} {h : Nat} (hS : hsS (M 142)) (hh6 : h ≤ 6) (hh : M 141 1 = nI h) (x y z t b : Int32) : Cx l yX8_setChimney wsX8_setChimney rmX8_setChimney (fun B => [.ref (B + 0), .int x, .int y, .int z, .int t, .int b]) M (fun _ v u => ∃ c, c < 8 ∧ x = nI c ∧ ((0 ≤ y ∧ y ≤ 9) ∧ (0 ≤ z ∧ z ≤ 2) ∧ (2 ≤ t ∧ t ≤ 12) ∧ (0 ≤ b ∧ b ≤ 11)) ∧ v = some (.int (shC (va_up (recM M h 1) (chP 1 c) (upd (upd (upd (upd ((recM M h 1) (chP 1 c)) 0 y) 1 z) 2 t) 3 b)) (chP 1 c) ((va_up (recM M h 1) (chP 1 c) (upd (upd (upd (upd ((recM M h 1) (chP 1 c)) 0 y) 1 z) 2 t) 3 b)) 1 9))) ∧ u = (va_up (recM M h 1) (chP 1 c) (upd (upd (upd (upd ((recM M h 1) (chP 1 c)) 0 y) 1 z) 2 t) 3 b))) (fun E u => E = xI ∧ ¬ (0 ≤ x ∧ x ≤ 7) ∧ u = M ∨ E = xA ∧ (0 ≤ x ∧ x ≤ 7) ∧ ¬ ((0 ≤ y ∧ y ≤ 9) ∧ (0 ≤ z ∧ z ≤ 2) ∧ (2 ≤ t ∧ t ≤ 12) ∧ (0 ≤ b ∧ b ≤ 11)) ∧ u = M) := by
  refine Cx.ofI (own := RX8) hls (by decide +kernel) rfl rfl (fun B => Nat.le_of_ble_eq_true rfl) ?_
  intro pp ee ss mm aa bb me c9 DD ca B Tl AA QQ F K KT KN
  show G pp l ee rmX8_setChimney ss mm aa bb me c9 QQ DD ca B Tl AA 7 0 0 M 0 [(0, .ref (B + 0)), (1, .int x), (2, .int y), (3, .int z), (4, .int t), (5, .int b)] []
  refine g_aload_n F dX8_setChimney_0 rfl 0 rfl ?_
  refine gg8_now F iX8_setChimney_8 r0 (by decide +kernel) dX8_setChimney_1 ?_
  refine g_iload_n F dX8_setChimney_4 rfl 1 rfl ?_
  refine x_callS F (kX8_chimneyOn l hls r1 _) (va_cwS 2 F.1.2.2.2.2 gX8_setChimney_X8_chimneyOn rfl rfl rfl (by decide +kernel) ⟨Nat.le_of_ble_eq_true rfl, Nat.le_of_ble_eq_true rfl⟩) rfl rfl rfl (Nat.le_of_ble_eq_true rfl) dX8_setChimney_5 ⟨Nat.le_of_ble_eq_true rfl, Nat.le_of_ble_eq_true rfl⟩ (fun v9 u9 h9 => ?_) (fun E9 u9 x9 => KT E9 u9 _ _ _ _ (Nat.le_of_ble_eq_true rfl) (Nat.le_of_ble_eq_true rfl) (Or.inl x9))
  obtain ⟨c, hc, e9, rfl, e6⟩ := h9
  obtain rfl := e6.symm
  refine g_astore F (lv2 := [(6, _), (0, _), (1, _), (2, _), (3, _), (4, _), (5, _)]) dX8_setChimney_8 (by decide) rfl ?_
  refine g_iload_n F dX8_setChimney_10 rfl 3 rfl ?_
  refine g_iconst F (v := 0) dX8_setChimney_11 (by decide) ?_
  refine g_bipush F (v := 9) dX8_setChimney_12 (by decide +kernel) ?_
  refine g_callS F (kX8_isWithin l _ _ _) (va_cwS 3 F.1.2.2.2.2 gX8_setChimney_X8_isWithin rfl rfl rfl (by decide +kernel) ⟨Nat.le_of_ble_eq_true rfl, Nat.le_of_ble_eq_true rfl⟩) rfl rfl rfl (Nat.le_of_ble_eq_true rfl) dX8_setChimney_14 ⟨Nat.le_of_ble_eq_true rfl, Nat.le_of_ble_eq_true rfl⟩ (g_det ?_)
  refine g_ifB_eq F 33 dX8_setChimney_17 (by decide) (fun h1 => ?_) (fun h1 => ?_)
  · refine g_iconst F (v := 0) dX8_setChimney_33 (by decide) ?_
    refine x_callS F (kX8_demand l hls _) (va_cwS 1 F.1.2.2.2.2 gX8_setChimney_X8_demand rfl rfl rfl (by decide +kernel) ⟨Nat.le_of_ble_eq_true rfl, Nat.le_of_ble_eq_true rfl⟩) rfl rfl rfl (Nat.le_of_ble_eq_true rfl) dX8_setChimney_34 ⟨Nat.le_of_ble_eq_true rfl, Nat.le_of_ble_eq_true rfl⟩ (fun v9 u9 h9 => absurd rfl h9.1) (fun E9 u9 x9 => KT E9 u9 _ _ _ _ (Nat.le_of_ble_eq_true rfl) (Nat.le_of_ble_eq_true rfl) (Or.inr ⟨x9.1, in7x e9 hc, (by first | exact fun z => h1 z.1 | exact fun z => h2 z.2.1 | exact fun z => h3 z.2.2.1 | exact fun z => h4 z.2.2.2), x9.2.2⟩))
  · refine g_iload_n F dX8_setChimney_20 rfl 4 rfl ?_
    refine g_iconst F (v := 0) dX8_setChimney_21 (by decide) ?_
    refine g_iconst F (v := 2) dX8_setChimney_22 (by decide) ?_
    refine g_callS F (kX8_isWithin l _ _ _) (va_cwS 3 F.1.2.2.2.2 gX8_setChimney_X8_isWithin rfl rfl rfl (by decide +kernel) ⟨Nat.le_of_ble_eq_true rfl, Nat.le_of_ble_eq_true rfl⟩) rfl rfl rfl (Nat.le_of_ble_eq_true rfl) dX8_setChimney_23 ⟨Nat.le_of_ble_eq_true rfl, Nat.le_of_ble_eq_true rfl⟩ (g_det ?_)
    refine g_ifB_eq F 33 dX8_setChimney_26 (by decide) (fun h2 => ?_) (fun h2 => ?_)
    · refine g_iconst F (v := 0) dX8_setChimney_33 (by decide) ?_
      refine x_callS F (kX8_demand l hls _) (va_cwS 1 F.1.2.2.2.2 gX8_setChimney_X8_demand rfl rfl rfl (by decide +kernel) ⟨Nat.le_of_ble_eq_true rfl, Nat.le_of_ble_eq_true rfl⟩) rfl rfl rfl (Nat.le_of_ble_eq_true rfl) dX8_setChimney_34 ⟨Nat.le_of_ble_eq_true rfl, Nat.le_of_ble_eq_true rfl⟩ (fun v9 u9 h9 => absurd rfl h9.1) (fun E9 u9 x9 => KT E9 u9 _ _ _ _ (Nat.le_of_ble_eq_true rfl) (Nat.le_of_ble_eq_true rfl) (Or.inr ⟨x9.1, in7x e9 hc, (by first | exact fun z => h1 z.1 | exact fun z => h2 z.2.1 | exact fun z => h3 z.2.2.1 | exact fun z => h4 z.2.2.2), x9.2.2⟩))
    · refine g_iconst F (v := 1) dX8_setChimney_29 (by decide) ?_
      refine g_goto F 34 dX8_setChimney_30 (by decide) ?_
      refine x_callS F (kX8_demand l hls _) (va_cwS 1 F.1.2.2.2.2 gX8_setChimney_X8_demand rfl rfl rfl (by decide +kernel) ⟨Nat.le_of_ble_eq_true rfl, Nat.le_of_ble_eq_true rfl⟩) rfl rfl rfl (Nat.le_of_ble_eq_true rfl) dX8_setChimney_34 ⟨Nat.le_of_ble_eq_true rfl, Nat.le_of_ble_eq_true rfl⟩ (fun v9 u9 h9 => ?_) (fun E9 u9 x9 => absurd x9.2.1 (by decide))
      obtain ⟨-, rfl, e6⟩ := h9
      obtain rfl := e6.symm
      refine g_iload F dX8_setChimney_37 5 rfl ?_
      refine g_iconst F (v := 2) dX8_setChimney_39 (by decide) ?_
      refine g_bipush F (v := 12) dX8_setChimney_40 (by decide +kernel) ?_
      refine g_callS F (kX8_isWithin l _ _ _) (va_cwS 3 F.1.2.2.2.2 gX8_setChimney_X8_isWithin rfl rfl rfl (by decide +kernel) ⟨Nat.le_of_ble_eq_true rfl, Nat.le_of_ble_eq_true rfl⟩) rfl rfl rfl (Nat.le_of_ble_eq_true rfl) dX8_setChimney_42 ⟨Nat.le_of_ble_eq_true rfl, Nat.le_of_ble_eq_true rfl⟩ (g_det ?_)
      refine g_ifB_eq F 63 dX8_setChimney_45 (by decide) (fun h3 => ?_) (fun h3 => ?_)
      · refine g_iconst F (v := 0) dX8_setChimney_63 (by decide) ?_
        refine x_callS F (kX8_demand l hls _) (va_cwS 1 F.1.2.2.2.2 gX8_setChimney_X8_demand rfl rfl rfl (by decide +kernel) ⟨Nat.le_of_ble_eq_true rfl, Nat.le_of_ble_eq_true rfl⟩) rfl rfl rfl (Nat.le_of_ble_eq_true rfl) dX8_setChimney_64 ⟨Nat.le_of_ble_eq_true rfl, Nat.le_of_ble_eq_true rfl⟩ (fun v9 u9 h9 => absurd rfl h9.1) (fun E9 u9 x9 => KT E9 u9 _ _ _ _ (Nat.le_of_ble_eq_true rfl) (Nat.le_of_ble_eq_true rfl) (Or.inr ⟨x9.1, in7x e9 hc, (by first | exact fun z => h1 z.1 | exact fun z => h2 z.2.1 | exact fun z => h3 z.2.2.1 | exact fun z => h4 z.2.2.2), x9.2.2⟩))
      · refine g_iload F dX8_setChimney_48 6 rfl ?_
        refine g_iconst F (v := 0) dX8_setChimney_50 (by decide) ?_
        refine g_bipush F (v := 11) dX8_setChimney_51 (by decide +kernel) ?_
        refine g_callS F (kX8_isWithin l _ _ _) (va_cwS 3 F.1.2.2.2.2 gX8_setChimney_X8_isWithin rfl rfl rfl (by decide +kernel) ⟨Nat.le_of_ble_eq_true rfl, Nat.le_of_ble_eq_true rfl⟩) rfl rfl rfl (Nat.le_of_ble_eq_true rfl) dX8_setChimney_53 ⟨Nat.le_of_ble_eq_true rfl, Nat.le_of_ble_eq_true rfl⟩ (g_det ?_)
        refine g_ifB_eq F 63 dX8_setChimney_56 (by decide) (fun h4 => ?_) (fun h4 => ?_)
        · refine g_iconst F (v := 0) dX8_setChimney_63 (by decide) ?_
          refine x_callS F (kX8_demand l hls _) (va_cwS 1 F.1.2.2.2.2 gX8_setChimney_X8_demand rfl rfl rfl (by decide +kernel) ⟨Nat.le_of_ble_eq_true rfl, Nat.le_of_ble_eq_true rfl⟩) rfl rfl rfl (Nat.le_of_ble_eq_true rfl) dX8_setChimney_64 ⟨Nat.le_of_ble_eq_true rfl, Nat.le_of_ble_eq_true rfl⟩ (fun v9 u9 h9 => absurd rfl h9.1) (fun E9 u9 x9 => KT E9 u9 _ _ _ _ (Nat.le_of_ble_eq_true rfl) (Nat.le_of_ble_eq_true rfl) (Or.inr ⟨x9.1, in7x e9 hc, (by first | exact fun z => h1 z.1 | exact fun z => h2 z.2.1 | exact fun z => h3 z.2.2.1 | exact fun z => h4 z.2.2.2), x9.2.2⟩))
        · refine g_iconst F (v := 1) dX8_setChimney_59 (by decide) ?_
          refine g_goto F 64 dX8_setChimney_60 (by decide) ?_
          refine x_callS F (kX8_demand l hls _) (va_cwS 1 F.1.2.2.2.2 gX8_setChimney_X8_demand rfl rfl rfl (by decide +kernel) ⟨Nat.le_of_ble_eq_true rfl, Nat.le_of_ble_eq_true rfl⟩) rfl rfl rfl (Nat.le_of_ble_eq_true rfl) dX8_setChimney_64 ⟨Nat.le_of_ble_eq_true rfl, Nat.le_of_ble_eq_true rfl⟩ (fun v9 u9 h9 => ?_) (fun E9 u9 x9 => absurd x9.2.1 (by decide))
          obtain ⟨-, rfl, e6⟩ := h9
          obtain rfl := e6.symm
          refine g_aload_n F dX8_setChimney_67 rfl 1 rfl ?_
          refine gg8_history F iX8_setChimney_8 r0 (by decide +kernel) dX8_setChimney_68 ?_
          refine g_aload_n F dX8_setChimney_71 rfl 1 rfl ?_
          refine gg8_now F iX8_setChimney_8 r0 (by decide +kernel) dX8_setChimney_72 ?_
          refine g_callV F (kX2_record l (n := h) r1 (by decide) hS hh6 hh) (cwV 1 F.1.2.2.2.2 gX8_setChimney_X2_record rfl rfl rfl (by decide +kernel) ⟨Nat.le_of_ble_eq_true rfl, Nat.le_of_ble_eq_true rfl⟩) r141 (by decide) rfl rfl rfl rfl (Nat.le_of_ble_eq_true rfl) dX8_setChimney_75 ⟨Nat.le_of_ble_eq_true rfl, Nat.le_of_ble_eq_true rfl⟩ (g_det ?_)
          refine g_aload F dX8_setChimney_78 0 rfl ?_
          refine g_iload_n F dX8_setChimney_80 rfl 3 rfl ?_
          refine gp0_fire F iX8_setChimney_0 (el12 (sb6 r1).1 hc) (by decide +kernel) dX8_setChimney_81 ?_
          try simp only [bx_uu, va_up_self]
          refine g_aload F dX8_setChimney_84 0 rfl ?_
          refine g_iload_n F dX8_setChimney_86 rfl 4 rfl ?_
          refine gp0_damp F iX8_setChimney_0 (el12 (sb6 r1).1 hc) (by decide +kernel) dX8_setChimney_87 ?_
          try simp only [bx_uu, va_up_self]
          refine g_aload F dX8_setChimney_90 0 rfl ?_
          refine g_iload F dX8_setChimney_92 5 rfl ?_
          refine gp0_turn F iX8_setChimney_0 (el12 (sb6 r1).1 hc) (by decide +kernel) dX8_setChimney_94 ?_
          try simp only [bx_uu, va_up_self]
          refine g_aload F dX8_setChimney_97 0 rfl ?_
          refine g_iload F dX8_setChimney_99 6 rfl ?_
          refine gp0_begin F iX8_setChimney_0 (el12 (sb6 r1).1 hc) (by decide +kernel) dX8_setChimney_101 ?_
          try simp only [bx_uu, va_up_self]
          refine g_aload F dX8_setChimney_104 0 rfl ?_
          refine g_aload_n F dX8_setChimney_106 rfl 1 rfl ?_
          refine gg8_now F iX8_setChimney_8 r0 (by decide +kernel) dX8_setChimney_107 ?_
          refine gg6_tick F iX8_setChimney_6 r1 (by decide +kernel) dX8_setChimney_110 ?_
          refine g_callV F (kX0_shadeAt l (el12 (sb6 r1).1 hc) _) (cwV 1 F.1.2.2.2.2 gX8_setChimney_X0_shadeAt rfl rfl rfl (by decide +kernel) ⟨Nat.le_of_ble_eq_true rfl, Nat.le_of_ble_eq_true rfl⟩) (el12 (sb6 r1).1 hc) (by decide) rfl rfl rfl rfl (Nat.le_of_ble_eq_true rfl) dX8_setChimney_113 ⟨Nat.le_of_ble_eq_true rfl, Nat.le_of_ble_eq_true rfl⟩ (g_det ?_)
          refine g_widen (k := rmX8_setChimney.cells) (n := rmX8_setChimney.slots) (Nat.le_of_ble_eq_true rfl) (Nat.le_of_ble_eq_true rfl) ?_
          exact K _ _ _ _ dX8_setChimney_116 rfl ⟨c, hc, e9, ⟨h1, h2, h3, h4⟩, rfl, rfl⟩

abbrev rmX8_appeal : Room := { frames := 7, cells := 2, slots := 12, locals := 145 }
theorem iX8_appeal_3 : ∀ w ∈ u_ws RX3 TX3 6, w ∈ wsX8_appeal := by decide +kernel
theorem iX8_appeal_8 : ∀ w ∈ u_ws RX8 TX8 6, w ∈ wsX8_appeal := by decide +kernel
set_option maxHeartbeats 4000000 in
set_option maxRecDepth 100000 in
theorem kX8_appeal (l : Launch) (hls : l.stackTraces = false) {M : Mm} {h : Nat} (hS : hsS (M 142)) (hh6 : h ≤ 6) (hh : M 141 1 = nI h) {n : Nat} (hn : M 1 5 = nI n) (hn20 : n ≤ 20) (hN : nchS M 1 n) (x : Int32) : Cx l yX8_appeal wsX8_appeal rmX8_appeal (fun B => [.ref (B + 0), .int x]) M (fun _ v u => ∃ e, e < n ∧ x = nI e ∧ M (noP 1 e) 4 = 0 ∧ v = some (.int (if (deF (recM M h 1) 1 (noP 1 e) (M (noP 1 e) 0).toNatClampNeg) (noP 1 e) 5 = 0 then 1 else 0)) ∧ u = (deF (recM M h 1) 1 (noP 1 e) (M (noP 1 e) 0).toNatClampNeg)) (fun E u => E = xI ∧ ¬ (0 ≤ x ∧ x < nI n ∧ x < 20) ∧ u = M ∨ E = xS ∧ ∃ e, e < n ∧ x = nI e ∧ ¬ M (noP 1 e) 4 = 0 ∧ u = M) := by
  refine Cx.ofI (own := RX8) hls (by decide +kernel) rfl rfl (fun B => Nat.le_of_ble_eq_true rfl) ?_
  intro pp ee ss mm aa bb me c9 DD ca B Tl AA QQ F K KT KN
  show G pp l ee rmX8_appeal ss mm aa bb me c9 QQ DD ca B Tl AA 3 0 0 M 0 [(0, .ref (B + 0)), (1, .int x)] []
  refine g_aload_n F dX8_appeal_0 rfl 0 rfl ?_
  refine g_iload_n F dX8_appeal_1 rfl 1 rfl ?_
  refine x_callV F (kX8_noticeNow l hls r0 hn hn20 _) (cwV 1 F.1.2.2.2.2 gX8_appeal_X8_noticeNow rfl rfl rfl (by decide +kernel) ⟨Nat.le_of_ble_eq_true rfl, Nat.le_of_ble_eq_true rfl⟩) r0 (by decide) rfl rfl rfl rfl (Nat.le_of_ble_eq_true rfl) dX8_appeal_2 ⟨Nat.le_of_ble_eq_true rfl, Nat.le_of_ble_eq_true rfl⟩ (fun v9 u9 h9 => ?_) (fun E9 u9 x9 => KT E9 u9 _ _ _ _ (Nat.le_of_ble_eq_true rfl) (Nat.le_of_ble_eq_true rfl) (Or.inl x9))
  obtain ⟨e, he, e7, rfl, e6⟩ := h9
  obtain rfl := e6.symm
  refine g_astore_n F (lv2 := [(2, _), (0, _), (1, _)]) dX8_appeal_5 rfl (by decide) rfl ?_
  refine g_aload_n F dX8_appeal_6 rfl 0 rfl ?_
  refine gg3_appealed F iX8_appeal_3 (el13 (sb6 r1).2.2.1 (by omega)) (by decide +kernel) dX8_appeal_7 ?_
  refine g_if_eq F 23 dX8_appeal_10 (by decide) (fun h1 => ?_) (fun h1 => ?_)
  · refine g_aload_n F dX8_appeal_23 rfl 1 rfl ?_
    refine gg8_history F iX8_appeal_8 r0 (by decide +kernel) dX8_appeal_24 ?_
    refine g_aload_n F dX8_appeal_27 rfl 1 rfl ?_
    refine gg8_now F iX8_appeal_8 r0 (by decide +kernel) dX8_appeal_28 ?_
    refine g_callV F (kX2_record l (n := h) r1 (by decide) hS hh6 hh) (cwV 1 F.1.2.2.2.2 gX8_appeal_X2_record rfl rfl rfl (by decide +kernel) ⟨Nat.le_of_ble_eq_true rfl, Nat.le_of_ble_eq_true rfl⟩) r141 (by decide) rfl rfl rfl rfl (Nat.le_of_ble_eq_true rfl) dX8_appeal_31 ⟨Nat.le_of_ble_eq_true rfl, Nat.le_of_ble_eq_true rfl⟩ (g_det ?_)
    refine g_aload_n F dX8_appeal_34 rfl 1 rfl ?_
    refine gg8_now F iX8_appeal_8 r0 (by decide +kernel) dX8_appeal_35 ?_
    refine g_aload_n F dX8_appeal_38 rfl 0 rfl ?_
    refine g_callV F (kX6_decide l r1 (el13 (sb6 r1).2.2.1 (by omega)) (c := (M (noP 1 e) 0).toNatClampNeg) (hN e he).1 (by rw [recM_o (by omega) hS]; exact (hN e he).2)) (cwV 1 F.1.2.2.2.2 gX8_appeal_X6_decide rfl rfl rfl (by decide +kernel) ⟨Nat.le_of_ble_eq_true rfl, Nat.le_of_ble_eq_true rfl⟩) r1 (by decide) rfl rfl rfl rfl (Nat.le_of_ble_eq_true rfl) dX8_appeal_39 ⟨Nat.le_of_ble_eq_true rfl, Nat.le_of_ble_eq_true rfl⟩ (g_det ?_)
    refine g_aload_n F dX8_appeal_42 rfl 0 rfl ?_
    refine gg3_standing F iX8_appeal_3 (el13 (sb6 r1).2.2.1 (by omega)) (by decide +kernel) dX8_appeal_43 ?_
    refine g_if_ne F 53 dX8_appeal_46 (by decide) (fun h2 => ?_) (fun h2 => ?_)
    · refine g_iconst F (v := 0) dX8_appeal_53 (by decide) ?_
      refine g_widen (k := rmX8_appeal.cells) (n := rmX8_appeal.slots) (Nat.le_of_ble_eq_true rfl) (Nat.le_of_ble_eq_true rfl) ?_
      exact K _ _ _ _ dX8_appeal_54 (by first | exact (bit_z bit_0).1 | exact (bit_z bit_1).1) ⟨e, he, e7, h1, by first | (rw [if_pos h2]; done) | (rw [if_neg h2]; done), rfl⟩
    · refine g_iconst F (v := 1) dX8_appeal_49 (by decide) ?_
      refine g_goto F 54 dX8_appeal_50 (by decide) ?_
      refine g_widen (k := rmX8_appeal.cells) (n := rmX8_appeal.slots) (Nat.le_of_ble_eq_true rfl) (Nat.le_of_ble_eq_true rfl) ?_
      exact K _ _ _ _ dX8_appeal_54 (by first | exact (bit_z bit_0).1 | exact (bit_z bit_1).1) ⟨e, he, e7, h1, by first | (rw [if_pos h2]; done) | (rw [if_neg h2]; done), rfl⟩
  · exact KN "java/lang/IllegalStateException" "an appeal against this notice was made" 120 122 124 _ _ _ _ _ _ (by decide +kernel) (by decide +kernel) (by decide +kernel) (by decide +kernel) (by decide +kernel) (by decide +kernel) (by decide +kernel) (by decide +kernel) dX8_appeal_13 dX8_appeal_16 (Or.inl ⟨dX8_appeal_17, dX8_appeal_19, dX8_appeal_22⟩) (Nat.le_of_ble_eq_true rfl) (Nat.le_of_ble_eq_true rfl) (Nat.le_of_ble_eq_true rfl) (Nat.le_of_ble_eq_true rfl) (Nat.le_refl _) (Nat.le_refl _) (Or.inr ⟨rfl, e, he, e7, h1, rfl⟩)
