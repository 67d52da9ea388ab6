theorem ofk {x : Int32} {n : Nat} (hn : n < 1000) (h : 0 ≤ x ∧ x ≤ nI n) : ∃ c, c ≤ n ∧ x = nI c := by
  obtain ⟨j, hj, rfl⟩ := nI_of (Int32.not_lt.mpr h.1)
  exact ⟨j, (nI_leI hj (by omega)).mp h.2, rfl⟩
theorem in_k {c n : Nat} (h : c ≤ n) (hn : n < 1000) : 0 ≤ nI c ∧ nI c ≤ nI n := ⟨nI_pos' (by omega), (nI_leI (by omega) (by omega)).mpr h⟩

abbrev rmX9_time : Room := { frames := 0, cells := 0, slots := 0, locals := 0 }
theorem iX9_time_9 : ∀ w ∈ u_ws RX9 TX9 15, w ∈ wsX9_time := by decide +kernel
set_option maxHeartbeats 400000 in
set_option maxRecDepth 100000 in
theorem kX9_time (l : Launch) {M : Mm}  : Ct l yX9_time wsX9_time rmX9_time (fun B => [.ref (B + 709)]) M (fun _ v u => v = some (.int (96 * M 710 73 + M 710 74)) ∧ u = thM M 0) := by
  refine Ct.ofI (own := RX9) (by decide +kernel) rfl rfl (fun B => Nat.le_of_ble_eq_true rfl) ?_
  intro pp ee ss mm aa bb me c9 DD ca B Tl AA QQ F K
  show G pp l ee rmX9_time ss mm aa bb me c9 QQ DD ca B Tl AA 1 0 0 M 0 [(0, .ref (B + 709))] []
  refine g_aload_n F dX9_time_0 rfl 0 rfl ?_
  refine g_iconst F (v := 0) dX9_time_1 (by decide) ?_
  refine gp9_thrown F iX9_time_9 r709 (by decide +kernel) dX9_time_2 ?_
  refine g_mem (show va_up M 709 (upd (M 709) 0 0) = thM M 0 from rfl) ?_
  refine g_bipush F (v := 96) dX9_time_5 (by decide +kernel) ?_
  refine g_aload_n F dX9_time_7 rfl 0 rfl ?_
  refine gg9_state F iX9_time_9 r709 (by decide +kernel) dX9_time_8 ?_
  refine g_bipush F (v := 73) dX9_time_11 (by decide +kernel) ?_
  refine g_iaload (r := 710) F a710 (73) rfl (by omega) (by decide) dX9_time_13 ?_
  refine g_imul F dX9_time_14 ?_
  refine g_aload_n F dX9_time_15 rfl 0 rfl ?_
  refine gg9_state F iX9_time_9 r709 (by decide +kernel) dX9_time_16 ?_
  refine g_bipush F (v := 74) dX9_time_19 (by decide +kernel) ?_
  refine g_iaload (r := 710) F a710 (74) rfl (by omega) (by decide) dX9_time_21 ?_
  refine g_iadd F dX9_time_22 ?_
  exact K _ _ _ _ dX9_time_23 rfl ⟨rfl, rfl⟩

abbrev rmX9_undoable : Room := { frames := 0, cells := 0, slots := 0, locals := 0 }
theorem iX9_undoable_9 : ∀ w ∈ u_ws RX9 TX9 15, w ∈ wsX9_undoable := by decide +kernel
set_option maxHeartbeats 400000 in
set_option maxRecDepth 100000 in
theorem kX9_undoable (l : Launch) {M : Mm}  : Ct l yX9_undoable wsX9_undoable rmX9_undoable (fun B => [.ref (B + 709)]) M (fun _ v u => v = some (.int (M 709 3)) ∧ u = thM M 0) := by
  refine Ct.ofI (own := RX9) (by decide +kernel) rfl rfl (fun B => Nat.le_of_ble_eq_true rfl) ?_
  intro pp ee ss mm aa bb me c9 DD ca B Tl AA QQ F K
  show G pp l ee rmX9_undoable ss mm aa bb me c9 QQ DD ca B Tl AA 1 0 0 M 0 [(0, .ref (B + 709))] []
  refine g_aload_n F dX9_undoable_0 rfl 0 rfl ?_
  refine g_iconst F (v := 0) dX9_undoable_1 (by decide) ?_
  refine gp9_thrown F iX9_undoable_9 r709 (by decide +kernel) dX9_undoable_2 ?_
  refine g_mem (show va_up M 709 (upd (M 709) 0 0) = thM M 0 from rfl) ?_
  refine g_aload_n F dX9_undoable_5 rfl 0 rfl ?_
  refine gg9_states F iX9_undoable_9 r709 (by decide +kernel) dX9_undoable_6 ?_
  exact K _ _ _ _ dX9_undoable_9 rfl ⟨rfl, rfl⟩

abbrev rmX9_notices : Room := { frames := 0, cells := 0, slots := 0, locals := 0 }
theorem iX9_notices_9 : ∀ w ∈ u_ws RX9 TX9 15, w ∈ wsX9_notices := by decide +kernel
set_option maxHeartbeats 400000 in
set_option maxRecDepth 100000 in
theorem kX9_notices (l : Launch) {M : Mm}  : Ct l yX9_notices wsX9_notices rmX9_notices (fun B => [.ref (B + 709)]) M (fun _ v u => v = some (.int (M 710 75)) ∧ u = thM M 0) := by
  refine Ct.ofI (own := RX9) (by decide +kernel) rfl rfl (fun B => Nat.le_of_ble_eq_true rfl) ?_
  intro pp ee ss mm aa bb me c9 DD ca B Tl AA QQ F K
  show G pp l ee rmX9_notices ss mm aa bb me c9 QQ DD ca B Tl AA 1 0 0 M 0 [(0, .ref (B + 709))] []
  refine g_aload_n F dX9_notices_0 rfl 0 rfl ?_
  refine g_iconst F (v := 0) dX9_notices_1 (by decide) ?_
  refine gp9_thrown F iX9_notices_9 r709 (by decide +kernel) dX9_notices_2 ?_
  refine g_mem (show va_up M 709 (upd (M 709) 0 0) = thM M 0 from rfl) ?_
  refine g_aload_n F dX9_notices_5 rfl 0 rfl ?_
  refine gg9_state F iX9_notices_9 r709 (by decide +kernel) dX9_notices_6 ?_
  refine g_bipush F (v := 75) dX9_notices_9 (by decide +kernel) ?_
  refine g_iaload (r := 710) F a710 (75) rfl (by omega) (by decide) dX9_notices_11 ?_
  exact K _ _ _ _ dX9_notices_12 rfl ⟨rfl, rfl⟩

abbrev rmX9_wipe : Room := { frames := 0, cells := 0, slots := 0, locals := 0 }
theorem iX9_wipe_9 : ∀ w ∈ u_ws RX9 TX9 15, w ∈ wsX9_wipe := by decide +kernel
set_option maxHeartbeats 400000 in
set_option maxRecDepth 100000 in
theorem kX9_wipe (l : Launch) {M : Mm}  : Ct l yX9_wipe wsX9_wipe rmX9_wipe (fun B => [.ref (B + 709)]) M (fun _ v u => v = some (.int (M 709 8)) ∧ u = va_up M 709 (upd (upd (M 709) 0 0) 8 0)) := by
  refine Ct.ofI (own := RX9) (by decide +kernel) rfl rfl (fun B => Nat.le_of_ble_eq_true rfl) ?_
  intro pp ee ss mm aa bb me c9 DD ca B Tl AA QQ F K
  show G pp l ee rmX9_wipe ss mm aa bb me c9 QQ DD ca B Tl AA 2 0 0 M 0 [(0, .ref (B + 709))] []
  refine g_aload_n F dX9_wipe_0 rfl 0 rfl ?_
  refine g_iconst F (v := 0) dX9_wipe_1 (by decide) ?_
  refine gp9_thrown F iX9_wipe_9 r709 (by decide +kernel) dX9_wipe_2 ?_
  refine g_mem (show va_up M 709 (upd (M 709) 0 0) = thM M 0 from rfl) ?_
  refine g_aload_n F dX9_wipe_5 rfl 0 rfl ?_
  refine gg9_length F iX9_wipe_9 r709 (by decide +kernel) dX9_wipe_6 ?_
  refine g_istore_n F (lv2 := [(1, _), (0, _)]) dX9_wipe_9 rfl (by decide) rfl ?_
  refine g_aload_n F dX9_wipe_10 rfl 1 rfl ?_
  refine g_iconst F (v := 0) dX9_wipe_11 (by decide) ?_
  refine gp9_length F iX9_wipe_9 r709 (by decide +kernel) dX9_wipe_12 ?_
  refine g_iload_n F dX9_wipe_15 rfl 0 rfl ?_
  exact K _ _ _ _ dX9_wipe_16 rfl ⟨rfl, by unfold thM; rw [bx_uu, va_up_self]⟩

abbrev rmX9_padLength : Room := { frames := 0, cells := 0, slots := 0, locals := 0 }
theorem iX9_padLength_9 : ∀ w ∈ u_ws RX9 TX9 15, w ∈ wsX9_padLength := by decide +kernel
set_option maxHeartbeats 400000 in
set_option maxRecDepth 100000 in
theorem kX9_padLength (l : Launch) {M : Mm}  : Ct l yX9_padLength wsX9_padLength rmX9_padLength (fun B => [.ref (B + 709)]) M (fun _ v u => v = some (.int (M 709 8)) ∧ u = thM M 0) := by
  refine Ct.ofI (own := RX9) (by decide +kernel) rfl rfl (fun B => Nat.le_of_ble_eq_true rfl) ?_
  intro pp ee ss mm aa bb me c9 DD ca B Tl AA QQ F K
  show G pp l ee rmX9_padLength ss mm aa bb me c9 QQ DD ca B Tl AA 1 0 0 M 0 [(0, .ref (B + 709))] []
  refine g_aload_n F dX9_padLength_0 rfl 0 rfl ?_
  refine g_iconst F (v := 0) dX9_padLength_1 (by decide) ?_
  refine gp9_thrown F iX9_padLength_9 r709 (by decide +kernel) dX9_padLength_2 ?_
  refine g_mem (show va_up M 709 (upd (M 709) 0 0) = thM M 0 from rfl) ?_
  refine g_aload_n F dX9_padLength_5 rfl 0 rfl ?_
  refine gg9_length F iX9_padLength_9 r709 (by decide +kernel) dX9_padLength_6 ?_
  exact K _ _ _ _ dX9_padLength_9 rfl ⟨rfl, rfl⟩

abbrev rmX9_shadeOf : Room := { frames := 2, cells := 0, slots := 0, locals := 42 }
theorem iX9_shadeOf_9 : ∀ w ∈ u_ws RX9 TX9 15, w ∈ wsX9_shadeOf := by decide +kernel
set_option maxHeartbeats 400000 in
set_option maxRecDepth 100000 in
theorem kX9_shadeOf (l : Launch) {M : Mm} (hne : ∀ c, c < 8 → ¬ M 710 (16 + c) = 0) (x y : Int32) : Ct l yX9_shadeOf wsX9_shadeOf rmX9_shadeOf (fun B => [.ref (B + 709), .int x, .int y]) M (fun _ v u => ¬ (0 ≤ x ∧ x ≤ 7) ∧ v = some (.int (0)) ∧ u = thM M 1 ∨ (0 ≤ x ∧ x ≤ 7) ∧ ¬ (0 ≤ y ∧ y ≤ 95) ∧ v = some (.int (0)) ∧ u = thM M 2 ∨ ∃ c, c < 8 ∧ x = nI c ∧ (0 ≤ y ∧ y ≤ 95) ∧ v = some (.int (shR (M 710) c y)) ∧ u = thM M 0) := by
  refine Ct.ofI (own := RX9) (by decide +kernel) rfl rfl (fun B => Nat.le_of_ble_eq_true rfl) ?_
  intro pp ee ss mm aa bb me c9 DD ca B Tl AA QQ F K
  show G pp l ee rmX9_shadeOf ss mm aa bb me c9 QQ DD ca B Tl AA 3 0 0 M 0 [(0, .ref (B + 709)), (1, .int x), (2, .int y)] []
  refine g_aload_n F dX9_shadeOf_0 rfl 0 rfl ?_
  refine g_iconst F (v := 0) dX9_shadeOf_1 (by decide) ?_
  refine gp9_thrown F iX9_shadeOf_9 r709 (by decide +kernel) dX9_shadeOf_2 ?_
  refine g_mem (show va_up M 709 (upd (M 709) 0 0) = thM M 0 from rfl) ?_
  refine g_iload_n F dX9_shadeOf_5 rfl 1 rfl ?_
  refine g_callS F (kX9_isChimney l _) (va_cwS 1 F.1.2.2.2.2 gX9_shadeOf_X9_isChimney rfl rfl rfl (by decide +kernel) ⟨Nat.le_of_ble_eq_true rfl, Nat.le_of_ble_eq_true rfl⟩) rfl rfl rfl (Nat.le_of_ble_eq_true rfl) dX9_shadeOf_6 ⟨Nat.le_of_ble_eq_true rfl, Nat.le_of_ble_eq_true rfl⟩ (g_det ?_)
  refine g_ifB_ne F 18 dX9_shadeOf_9 (by decide) (fun h1 => ?_) (fun h1 => ?_)
  · obtain ⟨c, hc_, rfl⟩ := ofk (n := 7) (by decide) h1
    have hc : c < 8 := by omega
    refine g_iload_n F dX9_shadeOf_18 rfl 2 rfl ?_
    refine g_callS F (kX9_isTick l _) (va_cwS 1 F.1.2.2.2.2 gX9_shadeOf_X9_isTick rfl rfl rfl (by decide +kernel) ⟨Nat.le_of_ble_eq_true rfl, Nat.le_of_ble_eq_true rfl⟩) rfl rfl rfl (Nat.le_of_ble_eq_true rfl) dX9_shadeOf_19 ⟨Nat.le_of_ble_eq_true rfl, Nat.le_of_ble_eq_true rfl⟩ (g_det ?_)
    refine g_ifB_eq F 34 dX9_shadeOf_22 (by decide) (fun h2 => ?_) (fun h2 => ?_)
    · refine g_aload_n F dX9_shadeOf_34 rfl 0 rfl ?_
      refine g_iconst F (v := 2) dX9_shadeOf_35 (by decide) ?_
      refine g_callV F (kX9_fails l _) (cwV 1 F.1.2.2.2.2 gX9_shadeOf_X9_fails rfl rfl rfl (by decide +kernel) ⟨Nat.le_of_ble_eq_true rfl, Nat.le_of_ble_eq_true rfl⟩) r709 (by decide) rfl rfl rfl rfl (Nat.le_of_ble_eq_true rfl) dX9_shadeOf_36 ⟨Nat.le_of_ble_eq_true rfl, Nat.le_of_ble_eq_true rfl⟩ (g_det ?_)
      refine g_mem (thM_2 M 0 _) ?_
      exact K _ _ _ _ dX9_shadeOf_39 rfl (by first | exact Or.inl ⟨h1, rfl, rfl⟩ | exact Or.inr (Or.inl ⟨in_k hc_ (by decide), h2, rfl, rfl⟩) | exact Or.inr (Or.inr ⟨c, hc, rfl, h2, rfl, rfl⟩))
    · refine g_aload_n F dX9_shadeOf_25 rfl 0 rfl ?_
      refine g_iload_n F dX9_shadeOf_26 rfl 1 rfl ?_
      refine g_iload_n F dX9_shadeOf_27 rfl 2 rfl ?_
      refine g_callV F (kX9_shade l (M := (thM M 0)) (c := c) (by omega) (hne c hc) _) (cwV 2 F.1.2.2.2.2 gX9_shadeOf_X9_shade rfl rfl rfl (by decide +kernel) ⟨Nat.le_of_ble_eq_true rfl, Nat.le_of_ble_eq_true rfl⟩) r709 (by decide) rfl rfl rfl rfl (Nat.le_of_ble_eq_true rfl) dX9_shadeOf_28 ⟨Nat.le_of_ble_eq_true rfl, Nat.le_of_ble_eq_true rfl⟩ (g_det ?_)
      refine g_goto F 39 dX9_shadeOf_31 (by decide) ?_
      exact K _ _ _ _ dX9_shadeOf_39 rfl (by first | exact Or.inl ⟨h1, rfl, rfl⟩ | exact Or.inr (Or.inl ⟨in_k hc_ (by decide), h2, rfl, rfl⟩) | exact Or.inr (Or.inr ⟨c, hc, rfl, h2, rfl, rfl⟩))
  · refine g_aload_n F dX9_shadeOf_12 rfl 0 rfl ?_
    refine g_iconst F (v := 1) dX9_shadeOf_13 (by decide) ?_
    refine g_callV F (kX9_fails l _) (cwV 1 F.1.2.2.2.2 gX9_shadeOf_X9_fails rfl rfl rfl (by decide +kernel) ⟨Nat.le_of_ble_eq_true rfl, Nat.le_of_ble_eq_true rfl⟩) r709 (by decide) rfl rfl rfl rfl (Nat.le_of_ble_eq_true rfl) dX9_shadeOf_14 ⟨Nat.le_of_ble_eq_true rfl, Nat.le_of_ble_eq_true rfl⟩ (g_det ?_)
    refine g_mem (thM_2 M 0 _) ?_
    exact K _ _ _ _ dX9_shadeOf_17 rfl (by first | exact Or.inl ⟨h1, rfl, rfl⟩ | exact Or.inr (Or.inl ⟨in_k hc_ (by decide), h2, rfl, rfl⟩) | exact Or.inr (Or.inr ⟨c, hc, rfl, h2, rfl, rfl⟩))

abbrev rmX9_readingOf : Room := { frames := 2, cells := 0, slots := 0, locals := 42 }
theorem iX9_readingOf_9 : ∀ w ∈ u_ws RX9 TX9 15, w ∈ wsX9_readingOf := by decide +kernel
set_option maxHeartbeats 400000 in
set_option maxRecDepth 100000 in
theorem kX9_readingOf (l : Launch) {M : Mm} (x y : Int32) : Ct l yX9_readingOf wsX9_readingOf rmX9_readingOf (fun B => [.ref (B + 709), .int x, .int y]) M (fun _ v u => ¬ (0 ≤ x ∧ x ≤ 7) ∧ v = some (.int (0)) ∧ u = thM M 1 ∨ (0 ≤ x ∧ x ≤ 7) ∧ ¬ (0 ≤ y ∧ y ≤ 95) ∧ v = some (.int (0)) ∧ u = thM M 2 ∨ ∃ c t, c < 8 ∧ x = nI c ∧ t < 96 ∧ y = nI t ∧ v = some (.int (M 710 (172 + 96 * c + t))) ∧ u = thM M 0) := by
  refine Ct.ofI (own := RX9) (by decide +kernel) rfl rfl (fun B => Nat.le_of_ble_eq_true rfl) ?_
  intro pp ee ss mm aa bb me c9 DD ca B Tl AA QQ F K
  show G pp l ee rmX9_readingOf ss mm aa bb me c9 QQ DD ca B Tl AA 3 0 0 M 0 [(0, .ref (B + 709)), (1, .int x), (2, .int y)] []
  refine g_aload_n F dX9_readingOf_0 rfl 0 rfl ?_
  refine g_iconst F (v := 0) dX9_readingOf_1 (by decide) ?_
  refine gp9_thrown F iX9_readingOf_9 r709 (by decide +kernel) dX9_readingOf_2 ?_
  refine g_mem (show va_up M 709 (upd (M 709) 0 0) = thM M 0 from rfl) ?_
  refine g_iload_n F dX9_readingOf_5 rfl 1 rfl ?_
  refine g_callS F (kX9_isChimney l _) (va_cwS 1 F.1.2.2.2.2 gX9_readingOf_X9_isChimney rfl rfl rfl (by decide +kernel) ⟨Nat.le_of_ble_eq_true rfl, Nat.le_of_ble_eq_true rfl⟩) rfl rfl rfl (Nat.le_of_ble_eq_true rfl) dX9_readingOf_6 ⟨Nat.le_of_ble_eq_true rfl, Nat.le_of_ble_eq_true rfl⟩ (g_det ?_)
  refine g_ifB_ne F 18 dX9_readingOf_9 (by decide) (fun h1 => ?_) (fun h1 => ?_)
  · obtain ⟨c, hc_, rfl⟩ := ofk (n := 7) (by decide) h1
    have hc : c < 8 := by omega
    refine g_iload_n F dX9_readingOf_18 rfl 2 rfl ?_
    refine g_callS F (kX9_isTick l _) (va_cwS 1 F.1.2.2.2.2 gX9_readingOf_X9_isTick rfl rfl rfl (by decide +kernel) ⟨Nat.le_of_ble_eq_true rfl, Nat.le_of_ble_eq_true rfl⟩) rfl rfl rfl (Nat.le_of_ble_eq_true rfl) dX9_readingOf_19 ⟨Nat.le_of_ble_eq_true rfl, Nat.le_of_ble_eq_true rfl⟩ (g_det ?_)
    refine g_ifB_eq F 34 dX9_readingOf_22 (by decide) (fun h2 => ?_) (fun h2 => ?_)
    · refine g_aload_n F dX9_readingOf_34 rfl 0 rfl ?_
      refine g_iconst F (v := 2) dX9_readingOf_35 (by decide) ?_
      refine g_callV F (kX9_fails l _) (cwV 1 F.1.2.2.2.2 gX9_readingOf_X9_fails rfl rfl rfl (by decide +kernel) ⟨Nat.le_of_ble_eq_true rfl, Nat.le_of_ble_eq_true rfl⟩) r709 (by decide) rfl rfl rfl rfl (Nat.le_of_ble_eq_true rfl) dX9_readingOf_36 ⟨Nat.le_of_ble_eq_true rfl, Nat.le_of_ble_eq_true rfl⟩ (g_det ?_)
      refine g_mem (thM_2 M 0 _) ?_
      exact K _ _ _ _ dX9_readingOf_39 rfl (by first | exact Or.inl ⟨h1, rfl, rfl⟩ | exact Or.inr (Or.inl ⟨in_k hc_ (by decide), h2, rfl, rfl⟩) | exact Or.inr (Or.inr ⟨c, t, hc, rfl, ht, rfl, rfl, rfl⟩))
    · obtain ⟨t, ht_, rfl⟩ := ofk (n := 95) (by decide) h2
      have ht : t < 96 := by omega
      refine g_aload_n F dX9_readingOf_25 rfl 0 rfl ?_
      refine g_iload_n F dX9_readingOf_26 rfl 1 rfl ?_
      refine g_iload_n F dX9_readingOf_27 rfl 2 rfl ?_
      refine g_callV F (kX9_readingIn l (M := (thM M 0)) (c := c) (t := t) (by omega) (by omega)) (cwV 2 F.1.2.2.2.2 gX9_readingOf_X9_readingIn rfl rfl rfl (by decide +kernel) ⟨Nat.le_of_ble_eq_true rfl, Nat.le_of_ble_eq_true rfl⟩) r709 (by decide) rfl rfl rfl rfl (Nat.le_of_ble_eq_true rfl) dX9_readingOf_28 ⟨Nat.le_of_ble_eq_true rfl, Nat.le_of_ble_eq_true rfl⟩ (g_det ?_)
      refine g_goto F 39 dX9_readingOf_31 (by decide) ?_
      exact K _ _ _ _ dX9_readingOf_39 rfl (by first | exact Or.inl ⟨h1, rfl, rfl⟩ | exact Or.inr (Or.inl ⟨in_k hc_ (by decide), h2, rfl, rfl⟩) | exact Or.inr (Or.inr ⟨c, t, hc, rfl, ht, rfl, rfl, rfl⟩))
  · refine g_aload_n F dX9_readingOf_12 rfl 0 rfl ?_
    refine g_iconst F (v := 1) dX9_readingOf_13 (by decide) ?_
    refine g_callV F (kX9_fails l _) (cwV 1 F.1.2.2.2.2 gX9_readingOf_X9_fails rfl rfl rfl (by decide +kernel) ⟨Nat.le_of_ble_eq_true rfl, Nat.le_of_ble_eq_true rfl⟩) r709 (by decide) rfl rfl rfl rfl (Nat.le_of_ble_eq_true rfl) dX9_readingOf_14 ⟨Nat.le_of_ble_eq_true rfl, Nat.le_of_ble_eq_true rfl⟩ (g_det ?_)
    refine g_mem (thM_2 M 0 _) ?_
    exact K _ _ _ _ dX9_readingOf_17 rfl (by first | exact Or.inl ⟨h1, rfl, rfl⟩ | exact Or.inr (Or.inl ⟨in_k hc_ (by decide), h2, rfl, rfl⟩) | exact Or.inr (Or.inr ⟨c, t, hc, rfl, ht, rfl, rfl, rfl⟩))

abbrev rmX9_greyOf : Room := { frames := 2, cells := 0, slots := 0, locals := 42 }
theorem iX9_greyOf_9 : ∀ w ∈ u_ws RX9 TX9 15, w ∈ wsX9_greyOf := by decide +kernel
set_option maxHeartbeats 400000 in
set_option maxRecDepth 100000 in
theorem kX9_greyOf (l : Launch) {M : Mm} (x : Int32) : Ct l yX9_greyOf wsX9_greyOf rmX9_greyOf (fun B => [.ref (B + 709), .int x]) M (fun _ v u => ¬ (0 ≤ x ∧ x ≤ 23) ∧ v = some (.int (0)) ∧ u = thM M 1 ∨ ∃ c, c < 24 ∧ x = nI c ∧ v = some (.int (M 710 (32 + c))) ∧ u = thM M 0) := by
  refine Ct.ofI (own := RX9) (by decide +kernel) rfl rfl (fun B => Nat.le_of_ble_eq_true rfl) ?_
  intro pp ee ss mm aa bb me c9 DD ca B Tl AA QQ F K
  show G pp l ee rmX9_greyOf ss mm aa bb me c9 QQ DD ca B Tl AA 2 0 0 M 0 [(0, .ref (B + 709)), (1, .int x)] []
  refine g_aload_n F dX9_greyOf_0 rfl 0 rfl ?_
  refine g_iconst F (v := 0) dX9_greyOf_1 (by decide) ?_
  refine gp9_thrown F iX9_greyOf_9 r709 (by decide +kernel) dX9_greyOf_2 ?_
  refine g_mem (show va_up M 709 (upd (M 709) 0 0) = thM M 0 from rfl) ?_
  refine g_iload_n F dX9_greyOf_5 rfl 1 rfl ?_
  refine g_callS F (kX9_isHour l _) (va_cwS 1 F.1.2.2.2.2 gX9_greyOf_X9_isHour rfl rfl rfl (by decide +kernel) ⟨Nat.le_of_ble_eq_true rfl, Nat.le_of_ble_eq_true rfl⟩) rfl rfl rfl (Nat.le_of_ble_eq_true rfl) dX9_greyOf_6 ⟨Nat.le_of_ble_eq_true rfl, Nat.le_of_ble_eq_true rfl⟩ (g_det ?_)
  refine g_ifB_eq F 24 dX9_greyOf_9 (by decide) (fun h1 => ?_) (fun h1 => ?_)
  · refine g_aload_n F dX9_greyOf_24 rfl 0 rfl ?_
    refine g_iconst F (v := 1) dX9_greyOf_25 (by decide) ?_
    refine g_callV F (kX9_fails l _) (cwV 1 F.1.2.2.2.2 gX9_greyOf_X9_fails rfl rfl rfl (by decide +kernel) ⟨Nat.le_of_ble_eq_true rfl, Nat.le_of_ble_eq_true rfl⟩) r709 (by decide) rfl rfl rfl rfl (Nat.le_of_ble_eq_true rfl) dX9_greyOf_26 ⟨Nat.le_of_ble_eq_true rfl, Nat.le_of_ble_eq_true rfl⟩ (g_det ?_)
    refine g_mem (thM_2 M 0 _) ?_
    exact K _ _ _ _ dX9_greyOf_29 rfl (by first | exact Or.inl ⟨h1, rfl, rfl⟩ | exact Or.inr ⟨c, hc, rfl, rfl, rfl⟩)
  · obtain ⟨c, hc_, rfl⟩ := ofk (n := 23) (by decide) h1
    have hc : c < 24 := by omega
    refine g_aload_n F dX9_greyOf_12 rfl 0 rfl ?_
    refine gg9_state F iX9_greyOf_9 r709 (by decide +kernel) dX9_greyOf_13 ?_
    refine g_bipush F (v := 32) dX9_greyOf_16 (by decide +kernel) ?_
    refine g_iload_n F dX9_greyOf_18 rfl 1 rfl ?_
    refine g_iadd F dX9_greyOf_19 ?_
    refine g_top (nI_add (32) (c)) ?_
    refine g_iaload (r := 710) F a710 ((32 + c)) rfl (by omega) (by decide) dX9_greyOf_20 ?_
    refine g_goto F 29 dX9_greyOf_21 (by decide) ?_
    exact K _ _ _ _ dX9_greyOf_29 rfl (by first | exact Or.inl ⟨h1, rfl, rfl⟩ | exact Or.inr ⟨c, hc, rfl, rfl, rfl⟩)

abbrev rmX9_wouldRead : Room := { frames := 2, cells := 0, slots := 0, locals := 48 }
theorem iX9_wouldRead_9 : ∀ w ∈ u_ws RX9 TX9 15, w ∈ wsX9_wouldRead := by decide +kernel
set_option maxHeartbeats 400000 in
set_option maxRecDepth 100000 in
theorem kX9_wouldRead (l : Launch) {M : Mm} {t : Nat} (ht : t < 96) (h9t : M 710 74 = nI t) (hne : ∀ c, c < 8 → ¬ M 710 (16 + c) = 0) (x y : Int32) : Ct l yX9_wouldRead wsX9_wouldRead rmX9_wouldRead (fun B => [.ref (B + 709), .int x, .int y]) M (fun _ v u => ¬ ((0 ≤ x ∧ x ≤ 2) ∧ (0 ≤ y ∧ y ≤ 7)) ∧ v = some (.int (0)) ∧ u = thM M 1 ∨ ∃ k c, k < 3 ∧ x = nI k ∧ c < 8 ∧ y = nI c ∧ v = some (.int (rdgR (M 710) t k c)) ∧ u = thM M 0) := by
  refine Ct.ofI (own := RX9) (by decide +kernel) rfl rfl (fun B => Nat.le_of_ble_eq_true rfl) ?_
  intro pp ee ss mm aa bb me c9 DD ca B Tl AA QQ F K
  show G pp l ee rmX9_wouldRead ss mm aa bb me c9 QQ DD ca B Tl AA 3 0 0 M 0 [(0, .ref (B + 709)), (1, .int x), (2, .int y)] []
  refine g_aload_n F dX9_wouldRead_0 rfl 0 rfl ?_
  refine g_iconst F (v := 0) dX9_wouldRead_1 (by decide) ?_
  refine gp9_thrown F iX9_wouldRead_9 r709 (by decide +kernel) dX9_wouldRead_2 ?_
  refine g_mem (show va_up M 709 (upd (M 709) 0 0) = thM M 0 from rfl) ?_
  refine g_iload_n F dX9_wouldRead_5 rfl 1 rfl ?_
  refine g_callS F (kX9_isObserver l _) (va_cwS 1 F.1.2.2.2.2 gX9_wouldRead_X9_isObserver rfl rfl rfl (by decide +kernel) ⟨Nat.le_of_ble_eq_true rfl, Nat.le_of_ble_eq_true rfl⟩) rfl rfl rfl (Nat.le_of_ble_eq_true rfl) dX9_wouldRead_6 ⟨Nat.le_of_ble_eq_true rfl, Nat.le_of_ble_eq_true rfl⟩ (g_det ?_)
  refine g_ifB_eq F 28 dX9_wouldRead_9 (by decide) (fun h1 => ?_) (fun h1 => ?_)
  · refine g_aload_n F dX9_wouldRead_28 rfl 0 rfl ?_
    refine g_iconst F (v := 1) dX9_wouldRead_29 (by decide) ?_
    refine g_callV F (kX9_fails l _) (cwV 1 F.1.2.2.2.2 gX9_wouldRead_X9_fails rfl rfl rfl (by decide +kernel) ⟨Nat.le_of_ble_eq_true rfl, Nat.le_of_ble_eq_true rfl⟩) r709 (by decide) rfl rfl rfl rfl (Nat.le_of_ble_eq_true rfl) dX9_wouldRead_30 ⟨Nat.le_of_ble_eq_true rfl, Nat.le_of_ble_eq_true rfl⟩ (g_det ?_)
    refine g_mem (thM_2 M 0 _) ?_
    exact K _ _ _ _ dX9_wouldRead_33 rfl (by first | exact Or.inl ⟨fun z => h1 z.1, rfl, rfl⟩ | exact Or.inl ⟨fun z => h2 z.2, rfl, rfl⟩ | exact Or.inr ⟨k, c, hk, rfl, hc, rfl, rfl, rfl⟩)
  · obtain ⟨k, hk_, rfl⟩ := ofk (n := 2) (by decide) h1
    have hk : k < 3 := by omega
    refine g_iload_n F dX9_wouldRead_12 rfl 2 rfl ?_
    refine g_callS F (kX9_isChimney l _) (va_cwS 1 F.1.2.2.2.2 gX9_wouldRead_X9_isChimney rfl rfl rfl (by decide +kernel) ⟨Nat.le_of_ble_eq_true rfl, Nat.le_of_ble_eq_true rfl⟩) rfl rfl rfl (Nat.le_of_ble_eq_true rfl) dX9_wouldRead_13 ⟨Nat.le_of_ble_eq_true rfl, Nat.le_of_ble_eq_true rfl⟩ (g_det ?_)
    refine g_ifB_eq F 28 dX9_wouldRead_16 (by decide) (fun h2 => ?_) (fun h2 => ?_)
    · refine g_aload_n F dX9_wouldRead_28 rfl 0 rfl ?_
      refine g_iconst F (v := 1) dX9_wouldRead_29 (by decide) ?_
      refine g_callV F (kX9_fails l _) (cwV 1 F.1.2.2.2.2 gX9_wouldRead_X9_fails rfl rfl rfl (by decide +kernel) ⟨Nat.le_of_ble_eq_true rfl, Nat.le_of_ble_eq_true rfl⟩) r709 (by decide) rfl rfl rfl rfl (Nat.le_of_ble_eq_true rfl) dX9_wouldRead_30 ⟨Nat.le_of_ble_eq_true rfl, Nat.le_of_ble_eq_true rfl⟩ (g_det ?_)
      refine g_mem (thM_2 M 0 _) ?_
      exact K _ _ _ _ dX9_wouldRead_33 rfl (by first | exact Or.inl ⟨fun z => h1 z.1, rfl, rfl⟩ | exact Or.inl ⟨fun z => h2 z.2, rfl, rfl⟩ | exact Or.inr ⟨k, c, hk, rfl, hc, rfl, rfl, rfl⟩)
    · obtain ⟨c, hc_, rfl⟩ := ofk (n := 7) (by decide) h2
      have hc : c < 8 := by omega
      refine g_aload_n F dX9_wouldRead_19 rfl 0 rfl ?_
      refine g_iload_n F dX9_wouldRead_20 rfl 1 rfl ?_
      refine g_iload_n F dX9_wouldRead_21 rfl 2 rfl ?_
      refine g_callV F (kX9_reads l (M := (thM M 0)) (t := t) (k := k) (c := c) (by omega) (by omega) ht h9t (hne c hc)) (cwV 2 F.1.2.2.2.2 gX9_wouldRead_X9_reads rfl rfl rfl (by decide +kernel) ⟨Nat.le_of_ble_eq_true rfl, Nat.le_of_ble_eq_true rfl⟩) r709 (by decide) rfl rfl rfl rfl (Nat.le_of_ble_eq_true rfl) dX9_wouldRead_22 ⟨Nat.le_of_ble_eq_true rfl, Nat.le_of_ble_eq_true rfl⟩ (g_det ?_)
      refine g_goto F 33 dX9_wouldRead_25 (by decide) ?_
      exact K _ _ _ _ dX9_wouldRead_33 rfl (by first | exact Or.inl ⟨fun z => h1 z.1, rfl, rfl⟩ | exact Or.inl ⟨fun z => h2 z.2, rfl, rfl⟩ | exact Or.inr ⟨k, c, hk, rfl, hc, rfl, rfl, rfl⟩)

def toR (f : Nat → Int32) (a : Nat) (x : Int32) : Int32 := if 0 ≤ x ∧ x ≤ 2 then f (a + x.toNatClampNeg) else 0
def toT (x : Int32) : Int32 := if 0 ≤ x ∧ x ≤ 2 then 0 else 1

abbrev rmX9_tellObserver : Room := { frames := 2, cells := 0, slots := 0, locals := 42 }
theorem iX9_tellObserver_9 : ∀ w ∈ u_ws RX9 TX9 15, w ∈ wsX9_tellObserver := by decide +kernel
set_option maxHeartbeats 400000 in
set_option maxRecDepth 100000 in
theorem kX9_tellObserver (l : Launch) {M : Mm} {a : Nat} (ha : a ≤ 70) (x : Int32) : Ct l yX9_tellObserver wsX9_tellObserver rmX9_tellObserver (fun B => [.ref (B + 709), .int (nI a), .int x]) M (fun _ v u => v = some (.int (toR (M 710) a x)) ∧ u = thM M (toT x)) := by
  refine Ct.ofI (own := RX9) (by decide +kernel) rfl rfl (fun B => Nat.le_of_ble_eq_true rfl) ?_
  intro pp ee ss mm aa bb me c9 DD ca B Tl AA QQ F K
  show G pp l ee rmX9_tellObserver ss mm aa bb me c9 QQ DD ca B Tl AA 3 0 0 M 0 [(0, .ref (B + 709)), (1, .int (nI a)), (2, .int x)] []
  refine g_aload_n F dX9_tellObserver_0 rfl 0 rfl ?_
  refine g_iconst F (v := 0) dX9_tellObserver_1 (by decide) ?_
  refine gp9_thrown F iX9_tellObserver_9 r709 (by decide +kernel) dX9_tellObserver_2 ?_
  refine g_mem (show va_up M 709 (upd (M 709) 0 0) = thM M 0 from rfl) ?_
  refine g_iload_n F dX9_tellObserver_5 rfl 2 rfl ?_
  refine g_callS F (kX9_isObserver l _) (va_cwS 1 F.1.2.2.2.2 gX9_tellObserver_X9_isObserver rfl rfl rfl (by decide +kernel) ⟨Nat.le_of_ble_eq_true rfl, Nat.le_of_ble_eq_true rfl⟩) rfl rfl rfl (Nat.le_of_ble_eq_true rfl) dX9_tellObserver_6 ⟨Nat.le_of_ble_eq_true rfl, Nat.le_of_ble_eq_true rfl⟩ (g_det ?_)
  refine g_ifB_eq F 23 dX9_tellObserver_9 (by decide) (fun h1 => ?_) (fun h1 => ?_)
  · have e0 : toR (M 710) a x = 0 := if_neg h1
    have e1 : toT x = 1 := if_neg h1
    refine g_aload_n F dX9_tellObserver_23 rfl 0 rfl ?_
    refine g_iconst F (v := 1) dX9_tellObserver_24 (by decide) ?_
    refine g_callV F (kX9_fails l _) (cwV 1 F.1.2.2.2.2 gX9_tellObserver_X9_fails rfl rfl rfl (by decide +kernel) ⟨Nat.le_of_ble_eq_true rfl, Nat.le_of_ble_eq_true rfl⟩) r709 (by decide) rfl rfl rfl rfl (Nat.le_of_ble_eq_true rfl) dX9_tellObserver_25 ⟨Nat.le_of_ble_eq_true rfl, Nat.le_of_ble_eq_true rfl⟩ (g_det ?_)
    refine g_mem (thM_2 M 0 _) ?_
    exact K _ _ _ _ dX9_tellObserver_28 rfl ⟨by first | (rw [e0]; done) | (rw [e0, nI_clamp (by omega)]; rfl), by rw [e1]⟩
  · have e0 : toR (M 710) a x = M 710 (a + x.toNatClampNeg) := if_pos h1
    have e1 : toT x = 0 := if_pos h1
    obtain ⟨k, hk_, rfl⟩ := ofk (n := 2) (by decide) h1
    have hk : k < 3 := by omega
    refine g_aload_n F dX9_tellObserver_12 rfl 0 rfl ?_
    refine gg9_state F iX9_tellObserver_9 r709 (by decide +kernel) dX9_tellObserver_13 ?_
    refine g_iload_n F dX9_tellObserver_16 rfl 1 rfl ?_
    refine g_iload_n F dX9_tellObserver_17 rfl 2 rfl ?_
    refine g_iadd F dX9_tellObserver_18 ?_
    refine g_top (nI_add (a) (k)) ?_
    refine g_iaload (r := 710) F a710 ((a + k)) rfl (by omega) (by decide) dX9_tellObserver_19 ?_
    refine g_goto F 28 dX9_tellObserver_20 (by decide) ?_
    exact K _ _ _ _ dX9_tellObserver_28 rfl ⟨by first | (rw [e0]; done) | (rw [e0, nI_clamp (by omega)]; rfl), by rw [e1]⟩

abbrev rmX9_watchedBy : Room := { frames := 3, cells := 0, slots := 0, locals := 64 }
set_option maxHeartbeats 400000 in
set_option maxRecDepth 100000 in
theorem kX9_watchedBy (l : Launch) {M : Mm} (x : Int32) : Ct l yX9_watchedBy wsX9_watchedBy rmX9_watchedBy (fun B => [.ref (B + 709), .int x]) M (fun _ v u => v = some (.int (toR (M 710) 62 x)) ∧ u = thM M (toT x)) := by
  refine Ct.ofI (own := RX9) (by decide +kernel) rfl rfl (fun B => Nat.le_of_ble_eq_true rfl) ?_
  intro pp ee ss mm aa bb me c9 DD ca B Tl AA QQ F K
  show G pp l ee rmX9_watchedBy ss mm aa bb me c9 QQ DD ca B Tl AA 2 0 0 M 0 [(0, .ref (B + 709)), (1, .int x)] []
  refine g_aload_n F dX9_watchedBy_0 rfl 0 rfl ?_
  refine g_bipush F (v := 62) dX9_watchedBy_1 (by decide +kernel) ?_
  refine g_iload_n F dX9_watchedBy_3 rfl 1 rfl ?_
  refine g_callV F (kX9_tellObserver l (a := 62) (by decide) _) (cwV 2 F.1.2.2.2.2 gX9_watchedBy_X9_tellObserver rfl rfl rfl (by decide +kernel) ⟨Nat.le_of_ble_eq_true rfl, Nat.le_of_ble_eq_true rfl⟩) r709 (by decide) rfl rfl rfl rfl (Nat.le_of_ble_eq_true rfl) dX9_watchedBy_4 ⟨Nat.le_of_ble_eq_true rfl, Nat.le_of_ble_eq_true rfl⟩ (g_det ?_)
  exact K _ _ _ _ dX9_watchedBy_7 rfl ⟨rfl, rfl⟩

abbrev rmX9_tirednessOf : Room := { frames := 3, cells := 0, slots := 0, locals := 64 }
set_option maxHeartbeats 400000 in
set_option maxRecDepth 100000 in
theorem kX9_tirednessOf (l : Launch) {M : Mm} (x : Int32) : Ct l yX9_tirednessOf wsX9_tirednessOf rmX9_tirednessOf (fun B => [.ref (B + 709), .int x]) M (fun _ v u => v = some (.int (toR (M 710) 59 x)) ∧ u = thM M (toT x)) := by
  refine Ct.ofI (own := RX9) (by decide +kernel) rfl rfl (fun B => Nat.le_of_ble_eq_true rfl) ?_
  intro pp ee ss mm aa bb me c9 DD ca B Tl AA QQ F K
  show G pp l ee rmX9_tirednessOf ss mm aa bb me c9 QQ DD ca B Tl AA 2 0 0 M 0 [(0, .ref (B + 709)), (1, .int x)] []
  refine g_aload_n F dX9_tirednessOf_0 rfl 0 rfl ?_
  refine g_bipush F (v := 59) dX9_tirednessOf_1 (by decide +kernel) ?_
  refine g_iload_n F dX9_tirednessOf_3 rfl 1 rfl ?_
  refine g_callV F (kX9_tellObserver l (a := 59) (by decide) _) (cwV 2 F.1.2.2.2.2 gX9_tirednessOf_X9_tellObserver rfl rfl rfl (by decide +kernel) ⟨Nat.le_of_ble_eq_true rfl, Nat.le_of_ble_eq_true rfl⟩) r709 (by decide) rfl rfl rfl rfl (Nat.le_of_ble_eq_true rfl) dX9_tirednessOf_4 ⟨Nat.le_of_ble_eq_true rfl, Nat.le_of_ble_eq_true rfl⟩ (g_det ?_)
  exact K _ _ _ _ dX9_tirednessOf_7 rfl ⟨rfl, rfl⟩

abbrev rmX9_errorsOf : Room := { frames := 3, cells := 0, slots := 0, locals := 64 }
set_option maxHeartbeats 400000 in
set_option maxRecDepth 100000 in
theorem kX9_errorsOf (l : Launch) {M : Mm} (x : Int32) : Ct l yX9_errorsOf wsX9_errorsOf rmX9_errorsOf (fun B => [.ref (B + 709), .int x]) M (fun _ v u => v = some (.int (toR (M 710) 65 x)) ∧ u = thM M (toT x)) := by
  refine Ct.ofI (own := RX9) (by decide +kernel) rfl rfl (fun B => Nat.le_of_ble_eq_true rfl) ?_
  intro pp ee ss mm aa bb me c9 DD ca B Tl AA QQ F K
  show G pp l ee rmX9_errorsOf ss mm aa bb me c9 QQ DD ca B Tl AA 2 0 0 M 0 [(0, .ref (B + 709)), (1, .int x)] []
  refine g_aload_n F dX9_errorsOf_0 rfl 0 rfl ?_
  refine g_bipush F (v := 65) dX9_errorsOf_1 (by decide +kernel) ?_
  refine g_iload_n F dX9_errorsOf_3 rfl 1 rfl ?_
  refine g_callV F (kX9_tellObserver l (a := 65) (by decide) _) (cwV 2 F.1.2.2.2.2 gX9_errorsOf_X9_tellObserver rfl rfl rfl (by decide +kernel) ⟨Nat.le_of_ble_eq_true rfl, Nat.le_of_ble_eq_true rfl⟩) r709 (by decide) rfl rfl rfl rfl (Nat.le_of_ble_eq_true rfl) dX9_errorsOf_4 ⟨Nat.le_of_ble_eq_true rfl, Nat.le_of_ble_eq_true rfl⟩ (g_det ?_)
  exact K _ _ _ _ dX9_errorsOf_7 rfl ⟨rfl, rfl⟩

abbrev rmX9_setGrey : Room := { frames := 2, cells := 0, slots := 0, locals := 42 }
theorem iX9_setGrey_9 : ∀ w ∈ u_ws RX9 TX9 15, w ∈ wsX9_setGrey := by decide +kernel
set_option maxHeartbeats 400000 in
set_option maxRecDepth 100000 in
theorem kX9_setGrey (l : Launch) {M : Mm} {s : Nat} (hs6 : s ≤ 6) (hs : M 709 3 = nI s) (x y : Int32) : Ct l yX9_setGrey wsX9_setGrey rmX9_setGrey (fun B => [.ref (B + 709), .int x, .int y]) M (fun _ v u => ¬ ((0 ≤ x ∧ x ≤ 23) ∧ (0 ≤ y ∧ y ≤ 4)) ∧ v = some (.int (0)) ∧ u = thM M 1 ∨ ∃ c, c < 24 ∧ x = nI c ∧ (0 ≤ y ∧ y ≤ 4) ∧ v = some (.int ((rcM (thM M 0) s) 710 (32 + c))) ∧ u = va_up (rcM (thM M 0) s) 710 (upd ((rcM (thM M 0) s) 710) (32 + c) y)) := by
  refine Ct.ofI (own := RX9) (by decide +kernel) rfl rfl (fun B => Nat.le_of_ble_eq_true rfl) ?_
  intro pp ee ss mm aa bb me c9 DD ca B Tl AA QQ F K
  show G pp l ee rmX9_setGrey ss mm aa bb me c9 QQ DD ca B Tl AA 4 0 0 M 0 [(0, .ref (B + 709)), (1, .int x), (2, .int y)] []
  refine g_aload_n F dX9_setGrey_0 rfl 0 rfl ?_
  refine g_iconst F (v := 0) dX9_setGrey_1 (by decide) ?_
  refine gp9_thrown F iX9_setGrey_9 r709 (by decide +kernel) dX9_setGrey_2 ?_
  refine g_mem (show va_up M 709 (upd (M 709) 0 0) = thM M 0 from rfl) ?_
  refine g_iload_n F dX9_setGrey_5 rfl 1 rfl ?_
  refine g_callS F (kX9_isHour l _) (va_cwS 1 F.1.2.2.2.2 gX9_setGrey_X9_isHour rfl rfl rfl (by decide +kernel) ⟨Nat.le_of_ble_eq_true rfl, Nat.le_of_ble_eq_true rfl⟩) rfl rfl rfl (Nat.le_of_ble_eq_true rfl) dX9_setGrey_6 ⟨Nat.le_of_ble_eq_true rfl, Nat.le_of_ble_eq_true rfl⟩ (g_det ?_)
  refine g_ifB_eq F 21 dX9_setGrey_9 (by decide) (fun h1 => ?_) (fun h1 => ?_)
  · refine g_aload_n F dX9_setGrey_21 rfl 0 rfl ?_
    refine g_iconst F (v := 1) dX9_setGrey_22 (by decide) ?_
    refine g_callV F (kX9_fails l _) (cwV 1 F.1.2.2.2.2 gX9_setGrey_X9_fails rfl rfl rfl (by decide +kernel) ⟨Nat.le_of_ble_eq_true rfl, Nat.le_of_ble_eq_true rfl⟩) r709 (by decide) rfl rfl rfl rfl (Nat.le_of_ble_eq_true rfl) dX9_setGrey_23 ⟨Nat.le_of_ble_eq_true rfl, Nat.le_of_ble_eq_true rfl⟩ (g_det ?_)
    refine g_mem (thM_2 M 0 _) ?_
    exact K _ _ _ _ dX9_setGrey_26 rfl (by first | exact Or.inl ⟨fun z => h1 z.1, rfl, rfl⟩ | exact Or.inl ⟨fun z => h2 z.2, rfl, rfl⟩ | exact Or.inr ⟨c, hc, rfl, h2, rfl, rfl⟩)
  · obtain ⟨c, hc_, rfl⟩ := ofk (n := 23) (by decide) h1
    have hc : c < 24 := by omega
    refine g_iload_n F dX9_setGrey_12 rfl 2 rfl ?_
    refine g_iconst F (v := 0) dX9_setGrey_13 (by decide) ?_
    refine g_iconst F (v := 4) dX9_setGrey_14 (by decide) ?_
    refine g_callS F (kX9_within l _ _ _) (va_cwS 3 F.1.2.2.2.2 gX9_setGrey_X9_within rfl rfl rfl (by decide +kernel) ⟨Nat.le_of_ble_eq_true rfl, Nat.le_of_ble_eq_true rfl⟩) rfl rfl rfl (Nat.le_of_ble_eq_true rfl) dX9_setGrey_15 ⟨Nat.le_of_ble_eq_true rfl, Nat.le_of_ble_eq_true rfl⟩ (g_det ?_)
    refine g_ifB_ne F 27 dX9_setGrey_18 (by decide) (fun h2 => ?_) (fun h2 => ?_)
    · refine g_aload_n F dX9_setGrey_27 rfl 0 rfl ?_
      refine g_callV F (kX9_record l (M := (thM M 0)) (s := s) hs6 hs) (cwV 0 F.1.2.2.2.2 gX9_setGrey_X9_record rfl rfl rfl (by decide +kernel) ⟨Nat.le_of_ble_eq_true rfl, Nat.le_of_ble_eq_true rfl⟩) r709 (by decide) rfl rfl rfl rfl (Nat.le_of_ble_eq_true rfl) dX9_setGrey_28 ⟨Nat.le_of_ble_eq_true rfl, Nat.le_of_ble_eq_true rfl⟩ (g_det ?_)
      refine g_aload_n F dX9_setGrey_31 rfl 0 rfl ?_
      refine gg9_state F iX9_setGrey_9 r709 (by decide +kernel) dX9_setGrey_32 ?_
      refine g_bipush F (v := 32) dX9_setGrey_35 (by decide +kernel) ?_
      refine g_iload_n F dX9_setGrey_37 rfl 1 rfl ?_
      refine g_iadd F dX9_setGrey_38 ?_
      refine g_top (nI_add (32) (c)) ?_
      refine g_iaload (r := 710) F a710 ((32 + c)) rfl (by omega) (by decide) dX9_setGrey_39 ?_
      refine g_istore_n F (lv2 := [(3, _), (0, _), (1, _), (2, _)]) dX9_setGrey_40 rfl (by decide) rfl ?_
      refine g_aload_n F dX9_setGrey_41 rfl 1 rfl ?_
      refine gg9_state F iX9_setGrey_9 r709 (by decide +kernel) dX9_setGrey_42 ?_
      refine g_bipush F (v := 32) dX9_setGrey_45 (by decide +kernel) ?_
      refine g_iload_n F dX9_setGrey_47 rfl 2 rfl ?_
      refine g_iadd F dX9_setGrey_48 ?_
      refine g_top (nI_add (32) (c)) ?_
      refine g_iload_n F dX9_setGrey_49 rfl 3 rfl ?_
      refine g_iastore (r := 710) F a710 ((32 + c)) rfl (by omega) (by decide) dX9_setGrey_50 ?_
      refine g_iload_n F dX9_setGrey_51 rfl 0 rfl ?_
      exact K _ _ _ _ dX9_setGrey_52 rfl (by first | exact Or.inl ⟨fun z => h1 z.1, rfl, rfl⟩ | exact Or.inl ⟨fun z => h2 z.2, rfl, rfl⟩ | exact Or.inr ⟨c, hc, rfl, h2, rfl, rfl⟩)
    · refine g_aload_n F dX9_setGrey_21 rfl 0 rfl ?_
      refine g_iconst F (v := 1) dX9_setGrey_22 (by decide) ?_
      refine g_callV F (kX9_fails l _) (cwV 1 F.1.2.2.2.2 gX9_setGrey_X9_fails rfl rfl rfl (by decide +kernel) ⟨Nat.le_of_ble_eq_true rfl, Nat.le_of_ble_eq_true rfl⟩) r709 (by decide) rfl rfl rfl rfl (Nat.le_of_ble_eq_true rfl) dX9_setGrey_23 ⟨Nat.le_of_ble_eq_true rfl, Nat.le_of_ble_eq_true rfl⟩ (g_det ?_)
      refine g_mem (thM_2 M 0 _) ?_
      exact K _ _ _ _ dX9_setGrey_26 rfl (by first | exact Or.inl ⟨fun z => h1 z.1, rfl, rfl⟩ | exact Or.inl ⟨fun z => h2 z.2, rfl, rfl⟩ | exact Or.inr ⟨c, hc, rfl, h2, rfl, rfl⟩)

abbrev rmX9_watch : Room := { frames := 2, cells := 0, slots := 0, locals := 42 }
theorem iX9_watch_9 : ∀ w ∈ u_ws RX9 TX9 15, w ∈ wsX9_watch := by decide +kernel
set_option maxHeartbeats 400000 in
set_option maxRecDepth 100000 in
theorem kX9_watch (l : Launch) {M : Mm} {s : Nat} (hs6 : s ≤ 6) (hs : M 709 3 = nI s) (x y : Int32) : Ct l yX9_watch wsX9_watch rmX9_watch (fun B => [.ref (B + 709), .int x, .int y]) M (fun _ v u => ¬ (0 ≤ x ∧ x ≤ 2) ∧ v = some (.int (0)) ∧ u = thM M 1 ∨ (0 ≤ x ∧ x ≤ 2) ∧ ¬ (y = -1 ∨ 0 ≤ y ∧ y ≤ 7) ∧ v = some (.int (0)) ∧ u = thM M 2 ∨ ∃ k, k < 3 ∧ x = nI k ∧ (y = -1 ∨ 0 ≤ y ∧ y ≤ 7) ∧ v = some (.int ((rcM (thM M 0) s) 710 (62 + k))) ∧ u = va_up (rcM (thM M 0) s) 710 (upd ((rcM (thM M 0) s) 710) (62 + k) y)) := by
  refine Ct.ofI (own := RX9) (by decide +kernel) rfl rfl (fun B => Nat.le_of_ble_eq_true rfl) ?_
  intro pp ee ss mm aa bb me c9 DD ca B Tl AA QQ F K
  show G pp l ee rmX9_watch ss mm aa bb me c9 QQ DD ca B Tl AA 4 0 0 M 0 [(0, .ref (B + 709)), (1, .int x), (2, .int y)] []
  refine g_aload_n F dX9_watch_0 rfl 0 rfl ?_
  refine g_iconst F (v := 0) dX9_watch_1 (by decide) ?_
  refine gp9_thrown F iX9_watch_9 r709 (by decide +kernel) dX9_watch_2 ?_
  refine g_mem (show va_up M 709 (upd (M 709) 0 0) = thM M 0 from rfl) ?_
  refine g_iload_n F dX9_watch_5 rfl 1 rfl ?_
  refine g_callS F (kX9_isObserver l _) (va_cwS 1 F.1.2.2.2.2 gX9_watch_X9_isObserver rfl rfl rfl (by decide +kernel) ⟨Nat.le_of_ble_eq_true rfl, Nat.le_of_ble_eq_true rfl⟩) rfl rfl rfl (Nat.le_of_ble_eq_true rfl) dX9_watch_6 ⟨Nat.le_of_ble_eq_true rfl, Nat.le_of_ble_eq_true rfl⟩ (g_det ?_)
  refine g_ifB_ne F 18 dX9_watch_9 (by decide) (fun h1 => ?_) (fun h1 => ?_)
  · obtain ⟨k, hk_, rfl⟩ := ofk (n := 2) (by decide) h1
    have hk : k < 3 := by omega
    refine g_iload_n F dX9_watch_18 rfl 2 rfl ?_
    refine g_iconst F (v := -1) dX9_watch_19 (by decide) ?_
    refine g_icmp_eq F 36 dX9_watch_20 (by decide) (fun h2 => ?_) (fun h2 => ?_)
    · refine g_aload_n F dX9_watch_36 rfl 0 rfl ?_
      refine g_callV F (kX9_record l (M := (thM M 0)) (s := s) hs6 hs) (cwV 0 F.1.2.2.2.2 gX9_watch_X9_record rfl rfl rfl (by decide +kernel) ⟨Nat.le_of_ble_eq_true rfl, Nat.le_of_ble_eq_true rfl⟩) r709 (by decide) rfl rfl rfl rfl (Nat.le_of_ble_eq_true rfl) dX9_watch_37 ⟨Nat.le_of_ble_eq_true rfl, Nat.le_of_ble_eq_true rfl⟩ (g_det ?_)
      refine g_aload_n F dX9_watch_40 rfl 0 rfl ?_
      refine gg9_state F iX9_watch_9 r709 (by decide +kernel) dX9_watch_41 ?_
      refine g_bipush F (v := 62) dX9_watch_44 (by decide +kernel) ?_
      refine g_iload_n F dX9_watch_46 rfl 1 rfl ?_
      refine g_iadd F dX9_watch_47 ?_
      refine g_top (nI_add (62) (k)) ?_
      refine g_iaload (r := 710) F a710 ((62 + k)) rfl (by omega) (by decide) dX9_watch_48 ?_
      refine g_istore_n F (lv2 := [(3, _), (0, _), (1, _), (2, _)]) dX9_watch_49 rfl (by decide) rfl ?_
      refine g_aload_n F dX9_watch_50 rfl 1 rfl ?_
      refine gg9_state F iX9_watch_9 r709 (by decide +kernel) dX9_watch_51 ?_
      refine g_bipush F (v := 62) dX9_watch_54 (by decide +kernel) ?_
      refine g_iload_n F dX9_watch_56 rfl 2 rfl ?_
      refine g_iadd F dX9_watch_57 ?_
      refine g_top (nI_add (62) (k)) ?_
      refine g_iload_n F dX9_watch_58 rfl 3 rfl ?_
      refine g_iastore (r := 710) F a710 ((62 + k)) rfl (by omega) (by decide) dX9_watch_59 ?_
      refine g_iload_n F dX9_watch_60 rfl 0 rfl ?_
      exact K _ _ _ _ dX9_watch_61 rfl (by first | exact Or.inl ⟨h1, rfl, rfl⟩ | exact Or.inr (Or.inl ⟨in_k hk_ (by decide), fun z => z.elim h2 h3, rfl, rfl⟩) | exact Or.inr (Or.inr ⟨k, hk, rfl, Or.inl h2, rfl, rfl⟩) | exact Or.inr (Or.inr ⟨k, hk, rfl, Or.inr h3, rfl, rfl⟩))
    · refine g_iload_n F dX9_watch_23 rfl 2 rfl ?_
      refine g_callS F (kX9_isChimney l _) (va_cwS 1 F.1.2.2.2.2 gX9_watch_X9_isChimney rfl rfl rfl (by decide +kernel) ⟨Nat.le_of_ble_eq_true rfl, Nat.le_of_ble_eq_true rfl⟩) rfl rfl rfl (Nat.le_of_ble_eq_true rfl) dX9_watch_24 ⟨Nat.le_of_ble_eq_true rfl, Nat.le_of_ble_eq_true rfl⟩ (g_det ?_)
      refine g_ifB_ne F 36 dX9_watch_27 (by decide) (fun h3 => ?_) (fun h3 => ?_)
      · refine g_aload_n F dX9_watch_36 rfl 0 rfl ?_
        refine g_callV F (kX9_record l (M := (thM M 0)) (s := s) hs6 hs) (cwV 0 F.1.2.2.2.2 gX9_watch_X9_record rfl rfl rfl (by decide +kernel) ⟨Nat.le_of_ble_eq_true rfl, Nat.le_of_ble_eq_true rfl⟩) r709 (by decide) rfl rfl rfl rfl (Nat.le_of_ble_eq_true rfl) dX9_watch_37 ⟨Nat.le_of_ble_eq_true rfl, Nat.le_of_ble_eq_true rfl⟩ (g_det ?_)
        refine g_aload_n F dX9_watch_40 rfl 0 rfl ?_
        refine gg9_state F iX9_watch_9 r709 (by decide +kernel) dX9_watch_41 ?_
        refine g_bipush F (v := 62) dX9_watch_44 (by decide +kernel) ?_
        refine g_iload_n F dX9_watch_46 rfl 1 rfl ?_
        refine g_iadd F dX9_watch_47 ?_
        refine g_top (nI_add (62) (k)) ?_
        refine g_iaload (r := 710) F a710 ((62 + k)) rfl (by omega) (by decide) dX9_watch_48 ?_
        refine g_istore_n F (lv2 := [(3, _), (0, _), (1, _), (2, _)]) dX9_watch_49 rfl (by decide) rfl ?_
        refine g_aload_n F dX9_watch_50 rfl 1 rfl ?_
        refine gg9_state F iX9_watch_9 r709 (by decide +kernel) dX9_watch_51 ?_
        refine g_bipush F (v := 62) dX9_watch_54 (by decide +kernel) ?_
        refine g_iload_n F dX9_watch_56 rfl 2 rfl ?_
        refine g_iadd F dX9_watch_57 ?_
        refine g_top (nI_add (62) (k)) ?_
        refine g_iload_n F dX9_watch_58 rfl 3 rfl ?_
        refine g_iastore (r := 710) F a710 ((62 + k)) rfl (by omega) (by decide) dX9_watch_59 ?_
        refine g_iload_n F dX9_watch_60 rfl 0 rfl ?_
        exact K _ _ _ _ dX9_watch_61 rfl (by first | exact Or.inl ⟨h1, rfl, rfl⟩ | exact Or.inr (Or.inl ⟨in_k hk_ (by decide), fun z => z.elim h2 h3, rfl, rfl⟩) | exact Or.inr (Or.inr ⟨k, hk, rfl, Or.inl h2, rfl, rfl⟩) | exact Or.inr (Or.inr ⟨k, hk, rfl, Or.inr h3, rfl, rfl⟩))
      · refine g_aload_n F dX9_watch_30 rfl 0 rfl ?_
        refine g_iconst F (v := 2) dX9_watch_31 (by decide) ?_
        refine g_callV F (kX9_fails l _) (cwV 1 F.1.2.2.2.2 gX9_watch_X9_fails rfl rfl rfl (by decide +kernel) ⟨Nat.le_of_ble_eq_true rfl, Nat.le_of_ble_eq_true rfl⟩) r709 (by decide) rfl rfl rfl rfl (Nat.le_of_ble_eq_true rfl) dX9_watch_32 ⟨Nat.le_of_ble_eq_true rfl, Nat.le_of_ble_eq_true rfl⟩ (g_det ?_)
        refine g_mem (thM_2 M 0 _) ?_
        exact K _ _ _ _ dX9_watch_35 rfl (by first | exact Or.inl ⟨h1, rfl, rfl⟩ | exact Or.inr (Or.inl ⟨in_k hk_ (by decide), fun z => z.elim h2 h3, rfl, rfl⟩) | exact Or.inr (Or.inr ⟨k, hk, rfl, Or.inl h2, rfl, rfl⟩) | exact Or.inr (Or.inr ⟨k, hk, rfl, Or.inr h3, rfl, rfl⟩))
  · refine g_aload_n F dX9_watch_12 rfl 0 rfl ?_
    refine g_iconst F (v := 1) dX9_watch_13 (by decide) ?_
    refine g_callV F (kX9_fails l _) (cwV 1 F.1.2.2.2.2 gX9_watch_X9_fails rfl rfl rfl (by decide +kernel) ⟨Nat.le_of_ble_eq_true rfl, Nat.le_of_ble_eq_true rfl⟩) r709 (by decide) rfl rfl rfl rfl (Nat.le_of_ble_eq_true rfl) dX9_watch_14 ⟨Nat.le_of_ble_eq_true rfl, Nat.le_of_ble_eq_true rfl⟩ (g_det ?_)
    refine g_mem (thM_2 M 0 _) ?_
    exact K _ _ _ _ dX9_watch_17 rfl (by first | exact Or.inl ⟨h1, rfl, rfl⟩ | exact Or.inr (Or.inl ⟨in_k hk_ (by decide), fun z => z.elim h2 h3, rfl, rfl⟩) | exact Or.inr (Or.inr ⟨k, hk, rfl, Or.inl h2, rfl, rfl⟩) | exact Or.inr (Or.inr ⟨k, hk, rfl, Or.inr h3, rfl, rfl⟩))

abbrev rmX9_setBias : Room := { frames := 2, cells := 0, slots := 0, locals := 42 }
theorem iX9_setBias_9 : ∀ w ∈ u_ws RX9 TX9 15, w ∈ wsX9_setBias := by decide +kernel
set_option maxHeartbeats 400000 in
set_option maxRecDepth 100000 in
theorem kX9_setBias (l : Launch) {M : Mm} {s : Nat} (hs6 : s ≤ 6) (hs : M 709 3 = nI s) (x y : Int32) : Ct l yX9_setBias wsX9_setBias rmX9_setBias (fun B => [.ref (B + 709), .int x, .int y]) M (fun _ v u => ¬ (0 ≤ x ∧ x ≤ 2) ∧ v = some (.int (0)) ∧ u = thM M 1 ∨ (0 ≤ x ∧ x ≤ 2) ∧ ¬ (-1 ≤ y ∧ y ≤ 1) ∧ v = some (.int (0)) ∧ u = thM M 2 ∨ ∃ k, k < 3 ∧ x = nI k ∧ (-1 ≤ y ∧ y ≤ 1) ∧ v = some (.int ((rcM (thM M 0) s) 710 (56 + k) + 1)) ∧ u = va_up (rcM (thM M 0) s) 710 (upd ((rcM (thM M 0) s) 710) (56 + k) y)) := by
  refine Ct.ofI (own := RX9) (by decide +kernel) rfl rfl (fun B => Nat.le_of_ble_eq_true rfl) ?_
  intro pp ee ss mm aa bb me c9 DD ca B Tl AA QQ F K
  show G pp l ee rmX9_setBias ss mm aa bb me c9 QQ DD ca B Tl AA 4 0 0 M 0 [(0, .ref (B + 709)), (1, .int x), (2, .int y)] []
  refine g_aload_n F dX9_setBias_0 rfl 0 rfl ?_
  refine g_iconst F (v := 0) dX9_setBias_1 (by decide) ?_
  refine gp9_thrown F iX9_setBias_9 r709 (by decide +kernel) dX9_setBias_2 ?_
  refine g_mem (show va_up M 709 (upd (M 709) 0 0) = thM M 0 from rfl) ?_
  refine g_iload_n F dX9_setBias_5 rfl 1 rfl ?_
  refine g_callS F (kX9_isObserver l _) (va_cwS 1 F.1.2.2.2.2 gX9_setBias_X9_isObserver rfl rfl rfl (by decide +kernel) ⟨Nat.le_of_ble_eq_true rfl, Nat.le_of_ble_eq_true rfl⟩) rfl rfl rfl (Nat.le_of_ble_eq_true rfl) dX9_setBias_6 ⟨Nat.le_of_ble_eq_true rfl, Nat.le_of_ble_eq_true rfl⟩ (g_det ?_)
  refine g_ifB_ne F 18 dX9_setBias_9 (by decide) (fun h1 => ?_) (fun h1 => ?_)
  · obtain ⟨k, hk_, rfl⟩ := ofk (n := 2) (by decide) h1
    have hk : k < 3 := by omega
    refine g_iload_n F dX9_setBias_18 rfl 2 rfl ?_
    refine g_iconst F (v := -1) dX9_setBias_19 (by decide) ?_
    refine g_iconst F (v := 1) dX9_setBias_20 (by decide) ?_
    refine g_callS F (kX9_within l _ _ _) (va_cwS 3 F.1.2.2.2.2 gX9_setBias_X9_within rfl rfl rfl (by decide +kernel) ⟨Nat.le_of_ble_eq_true rfl, Nat.le_of_ble_eq_true rfl⟩) rfl rfl rfl (Nat.le_of_ble_eq_true rfl) dX9_setBias_21 ⟨Nat.le_of_ble_eq_true rfl, Nat.le_of_ble_eq_true rfl⟩ (g_det ?_)
    refine g_ifB_ne F 33 dX9_setBias_24 (by decide) (fun h2 => ?_) (fun h2 => ?_)
    · refine g_aload_n F dX9_setBias_33 rfl 0 rfl ?_
      refine g_callV F (kX9_record l (M := (thM M 0)) (s := s) hs6 hs) (cwV 0 F.1.2.2.2.2 gX9_setBias_X9_record rfl rfl rfl (by decide +kernel) ⟨Nat.le_of_ble_eq_true rfl, Nat.le_of_ble_eq_true rfl⟩) r709 (by decide) rfl rfl rfl rfl (Nat.le_of_ble_eq_true rfl) dX9_setBias_34 ⟨Nat.le_of_ble_eq_true rfl, Nat.le_of_ble_eq_true rfl⟩ (g_det ?_)
      refine g_aload_n F dX9_setBias_37 rfl 0 rfl ?_
      refine gg9_state F iX9_setBias_9 r709 (by decide +kernel) dX9_setBias_38 ?_
      refine g_bipush F (v := 56) dX9_setBias_41 (by decide +kernel) ?_
      refine g_iload_n F dX9_setBias_43 rfl 1 rfl ?_
      refine g_iadd F dX9_setBias_44 ?_
      refine g_top (nI_add (56) (k)) ?_
      refine g_iaload (r := 710) F a710 ((56 + k)) rfl (by omega) (by decide) dX9_setBias_45 ?_
      refine g_istore_n F (lv2 := [(3, _), (0, _), (1, _), (2, _)]) dX9_setBias_46 rfl (by decide) rfl ?_
      refine g_aload_n F dX9_setBias_47 rfl 1 rfl ?_
      refine gg9_state F iX9_setBias_9 r709 (by decide +kernel) dX9_setBias_48 ?_
      refine g_bipush F (v := 56) dX9_setBias_51 (by decide +kernel) ?_
      refine g_iload_n F dX9_setBias_53 rfl 2 rfl ?_
      refine g_iadd F dX9_setBias_54 ?_
      refine g_top (nI_add (56) (k)) ?_
      refine g_iload_n F dX9_setBias_55 rfl 3 rfl ?_
      refine g_iastore (r := 710) F a710 ((56 + k)) rfl (by omega) (by decide) dX9_setBias_56 ?_
      refine g_iload_n F dX9_setBias_57 rfl 0 rfl ?_
      refine g_iconst F (v := 1) dX9_setBias_58 (by decide) ?_
      refine g_iadd F dX9_setBias_59 ?_
      exact K _ _ _ _ dX9_setBias_60 rfl (by first | exact Or.inl ⟨h1, rfl, rfl⟩ | exact Or.inr (Or.inl ⟨in_k hk_ (by decide), h2, rfl, rfl⟩) | exact Or.inr (Or.inr ⟨k, hk, rfl, h2, rfl, rfl⟩))
    · refine g_aload_n F dX9_setBias_27 rfl 0 rfl ?_
      refine g_iconst F (v := 2) dX9_setBias_28 (by decide) ?_
      refine g_callV F (kX9_fails l _) (cwV 1 F.1.2.2.2.2 gX9_setBias_X9_fails rfl rfl rfl (by decide +kernel) ⟨Nat.le_of_ble_eq_true rfl, Nat.le_of_ble_eq_true rfl⟩) r709 (by decide) rfl rfl rfl rfl (Nat.le_of_ble_eq_true rfl) dX9_setBias_29 ⟨Nat.le_of_ble_eq_true rfl, Nat.le_of_ble_eq_true rfl⟩ (g_det ?_)
      refine g_mem (thM_2 M 0 _) ?_
      exact K _ _ _ _ dX9_setBias_32 rfl (by first | exact Or.inl ⟨h1, rfl, rfl⟩ | exact Or.inr (Or.inl ⟨in_k hk_ (by decide), h2, rfl, rfl⟩) | exact Or.inr (Or.inr ⟨k, hk, rfl, h2, rfl, rfl⟩))
  · refine g_aload_n F dX9_setBias_12 rfl 0 rfl ?_
    refine g_iconst F (v := 1) dX9_setBias_13 (by decide) ?_
    refine g_callV F (kX9_fails l _) (cwV 1 F.1.2.2.2.2 gX9_setBias_X9_fails rfl rfl rfl (by decide +kernel) ⟨Nat.le_of_ble_eq_true rfl, Nat.le_of_ble_eq_true rfl⟩) r709 (by decide) rfl rfl rfl rfl (Nat.le_of_ble_eq_true rfl) dX9_setBias_14 ⟨Nat.le_of_ble_eq_true rfl, Nat.le_of_ble_eq_true rfl⟩ (g_det ?_)
    refine g_mem (thM_2 M 0 _) ?_
    exact K _ _ _ _ dX9_setBias_17 rfl (by first | exact Or.inl ⟨h1, rfl, rfl⟩ | exact Or.inr (Or.inl ⟨in_k hk_ (by decide), h2, rfl, rfl⟩) | exact Or.inr (Or.inr ⟨k, hk, rfl, h2, rfl, rfl⟩))

abbrev rmX9_setLimit : Room := { frames := 1, cells := 0, slots := 0, locals := 22 }
theorem iX9_setLimit_9 : ∀ w ∈ u_ws RX9 TX9 15, w ∈ wsX9_setLimit := by decide +kernel
set_option maxHeartbeats 400000 in
set_option maxRecDepth 100000 in
theorem kX9_setLimit (l : Launch) {M : Mm} {s : Nat} (hs6 : s ≤ 6) (hs : M 709 3 = nI s) (x y : Int32) : Ct l yX9_setLimit wsX9_setLimit rmX9_setLimit (fun B => [.ref (B + 709), .int x, .int y]) M (fun _ v u => ¬ ((1 ≤ x ∧ x ≤ 5) ∧ (1 ≤ y ∧ y ≤ 8)) ∧ v = some (.int (0)) ∧ u = thM M 1 ∨ ((1 ≤ x ∧ x ≤ 5) ∧ (1 ≤ y ∧ y ≤ 8)) ∧ v = some (.int ((rcM (thM M 0) s) 710 71)) ∧ u = va_up (rcM (thM M 0) s) 710 (upd (upd ((rcM (thM M 0) s) 710) 71 x) 72 y)) := by
  refine Ct.ofI (own := RX9) (by decide +kernel) rfl rfl (fun B => Nat.le_of_ble_eq_true rfl) ?_
  intro pp ee ss mm aa bb me c9 DD ca B Tl AA QQ F K
  show G pp l ee rmX9_setLimit ss mm aa bb me c9 QQ DD ca B Tl AA 4 0 0 M 0 [(0, .ref (B + 709)), (1, .int x), (2, .int y)] []
  refine g_aload_n F dX9_setLimit_0 rfl 0 rfl ?_
  refine g_iconst F (v := 0) dX9_setLimit_1 (by decide) ?_
  refine gp9_thrown F iX9_setLimit_9 r709 (by decide +kernel) dX9_setLimit_2 ?_
  refine g_mem (show va_up M 709 (upd (M 709) 0 0) = thM M 0 from rfl) ?_
  refine g_iload_n F dX9_setLimit_5 rfl 1 rfl ?_
  refine g_iconst F (v := 1) dX9_setLimit_6 (by decide) ?_
  refine g_iconst F (v := 5) dX9_setLimit_7 (by decide) ?_
  refine g_callS F (kX9_within l _ _ _) (va_cwS 3 F.1.2.2.2.2 gX9_setLimit_X9_within rfl rfl rfl (by decide +kernel) ⟨Nat.le_of_ble_eq_true rfl, Nat.le_of_ble_eq_true rfl⟩) rfl rfl rfl (Nat.le_of_ble_eq_true rfl) dX9_setLimit_8 ⟨Nat.le_of_ble_eq_true rfl, Nat.le_of_ble_eq_true rfl⟩ (g_det ?_)
  refine g_ifB_eq F 24 dX9_setLimit_11 (by decide) (fun h1 => ?_) (fun h1 => ?_)
  · refine g_aload_n F dX9_setLimit_24 rfl 0 rfl ?_
    refine g_iconst F (v := 1) dX9_setLimit_25 (by decide) ?_
    refine g_callV F (kX9_fails l _) (cwV 1 F.1.2.2.2.2 gX9_setLimit_X9_fails rfl rfl rfl (by decide +kernel) ⟨Nat.le_of_ble_eq_true rfl, Nat.le_of_ble_eq_true rfl⟩) r709 (by decide) rfl rfl rfl rfl (Nat.le_of_ble_eq_true rfl) dX9_setLimit_26 ⟨Nat.le_of_ble_eq_true rfl, Nat.le_of_ble_eq_true rfl⟩ (g_det ?_)
    refine g_mem (thM_2 M 0 _) ?_
    exact K _ _ _ _ dX9_setLimit_29 rfl (by first | exact Or.inl ⟨fun z => h1 z.1, rfl, rfl⟩ | exact Or.inl ⟨fun z => h2 z.2, rfl, rfl⟩ | exact Or.inr ⟨⟨h1, h2⟩, rfl, rfl⟩)
  · refine g_iload_n F dX9_setLimit_14 rfl 2 rfl ?_
    refine g_iconst F (v := 1) dX9_setLimit_15 (by decide) ?_
    refine g_bipush F (v := 8) dX9_setLimit_16 (by decide +kernel) ?_
    refine g_callS F (kX9_within l _ _ _) (va_cwS 3 F.1.2.2.2.2 gX9_setLimit_X9_within rfl rfl rfl (by decide +kernel) ⟨Nat.le_of_ble_eq_true rfl, Nat.le_of_ble_eq_true rfl⟩) rfl rfl rfl (Nat.le_of_ble_eq_true rfl) dX9_setLimit_18 ⟨Nat.le_of_ble_eq_true rfl, Nat.le_of_ble_eq_true rfl⟩ (g_det ?_)
    refine g_ifB_ne F 30 dX9_setLimit_21 (by decide) (fun h2 => ?_) (fun h2 => ?_)
    · refine g_aload_n F dX9_setLimit_30 rfl 0 rfl ?_
      refine g_callV F (kX9_record l (M := (thM M 0)) (s := s) hs6 hs) (cwV 0 F.1.2.2.2.2 gX9_setLimit_X9_record rfl rfl rfl (by decide +kernel) ⟨Nat.le_of_ble_eq_true rfl, Nat.le_of_ble_eq_true rfl⟩) r709 (by decide) rfl rfl rfl rfl (Nat.le_of_ble_eq_true rfl) dX9_setLimit_31 ⟨Nat.le_of_ble_eq_true rfl, Nat.le_of_ble_eq_true rfl⟩ (g_det ?_)
      refine g_aload_n F dX9_setLimit_34 rfl 0 rfl ?_
      refine gg9_state F iX9_setLimit_9 r709 (by decide +kernel) dX9_setLimit_35 ?_
      refine g_bipush F (v := 71) dX9_setLimit_38 (by decide +kernel) ?_
      refine g_iaload (r := 710) F a710 (71) rfl (by omega) (by decide) dX9_setLimit_40 ?_
      refine g_istore_n F (lv2 := [(3, _), (0, _), (1, _), (2, _)]) dX9_setLimit_41 rfl (by decide) rfl ?_
      refine g_aload_n F dX9_setLimit_42 rfl 1 rfl ?_
      refine gg9_state F iX9_setLimit_9 r709 (by decide +kernel) dX9_setLimit_43 ?_
      refine g_bipush F (v := 71) dX9_setLimit_46 (by decide +kernel) ?_
      refine g_iload_n F dX9_setLimit_48 rfl 2 rfl ?_
      refine g_iastore (r := 710) F a710 (71) rfl (by omega) (by decide) dX9_setLimit_49 ?_
      refine g_aload_n F dX9_setLimit_50 rfl 1 rfl ?_
      refine gg9_state F iX9_setLimit_9 r709 (by decide +kernel) dX9_setLimit_51 ?_
      refine g_bipush F (v := 72) dX9_setLimit_54 (by decide +kernel) ?_
      refine g_iload_n F dX9_setLimit_56 rfl 3 rfl ?_
      refine g_iastore (r := 710) F a710 (72) rfl (by omega) (by decide) dX9_setLimit_57 ?_
      try simp only [bx_uu, va_up_self]
      refine g_iload_n F dX9_setLimit_58 rfl 0 rfl ?_
      exact K _ _ _ _ dX9_setLimit_59 rfl (by first | exact Or.inl ⟨fun z => h1 z.1, rfl, rfl⟩ | exact Or.inl ⟨fun z => h2 z.2, rfl, rfl⟩ | exact Or.inr ⟨⟨h1, h2⟩, rfl, rfl⟩)
    · refine g_aload_n F dX9_setLimit_24 rfl 0 rfl ?_
      refine g_iconst F (v := 1) dX9_setLimit_25 (by decide) ?_
      refine g_callV F (kX9_fails l _) (cwV 1 F.1.2.2.2.2 gX9_setLimit_X9_fails rfl rfl rfl (by decide +kernel) ⟨Nat.le_of_ble_eq_true rfl, Nat.le_of_ble_eq_true rfl⟩) r709 (by decide) rfl rfl rfl rfl (Nat.le_of_ble_eq_true rfl) dX9_setLimit_26 ⟨Nat.le_of_ble_eq_true rfl, Nat.le_of_ble_eq_true rfl⟩ (g_det ?_)
      refine g_mem (thM_2 M 0 _) ?_
      exact K _ _ _ _ dX9_setLimit_29 rfl (by first | exact Or.inl ⟨fun z => h1 z.1, rfl, rfl⟩ | exact Or.inl ⟨fun z => h2 z.2, rfl, rfl⟩ | exact Or.inr ⟨⟨h1, h2⟩, rfl, rfl⟩)

abbrev rmX9_pass : Room := { frames := 5, cells := 0, slots := 0, locals := 117 }
theorem iX9_pass_9 : ∀ w ∈ u_ws RX9 TX9 15, w ∈ wsX9_pass := by decide +kernel
set_option maxHeartbeats 400000 in
set_option maxRecDepth 100000 in
theorem kX9_pass (l : Launch) {M : Mm} {s : Nat} (hs6 : s ≤ 6) (hs : M 709 3 = nI s) (hW : RW (M 710)) (x : Int32) : Ct l yX9_pass wsX9_pass rmX9_pass (fun B => [.ref (B + 709), .int x]) M (fun _ v u => ¬ (1 ≤ x ∧ x ≤ 200) ∧ v = some (.int (0)) ∧ u = thM M 1 ∨ ∃ k, 1 ≤ k ∧ k ≤ 200 ∧ x = nI k ∧ v = some (.int (psR ((rcM (thM M 0) s) 710) k 75 - ((rcM (thM M 0) s) 710) 75)) ∧ u = va_up (rcM (thM M 0) s) 710 (psR ((rcM (thM M 0) s) 710) k)) := by
  refine Ct.ofI (own := RX9) (by decide +kernel) rfl rfl (fun B => Nat.le_of_ble_eq_true rfl) ?_
  intro pp ee ss mm aa bb me c9 DD ca B Tl AA QQ F K
  show G pp l ee rmX9_pass ss mm aa bb me c9 QQ DD ca B Tl AA 2 0 0 M 0 [(0, .ref (B + 709)), (1, .int x)] []
  refine g_aload_n F dX9_pass_0 rfl 0 rfl ?_
  refine g_iconst F (v := 0) dX9_pass_1 (by decide) ?_
  refine gp9_thrown F iX9_pass_9 r709 (by decide +kernel) dX9_pass_2 ?_
  refine g_mem (show va_up M 709 (upd (M 709) 0 0) = thM M 0 from rfl) ?_
  refine g_iload_n F dX9_pass_5 rfl 1 rfl ?_
  refine g_callS F (kX9_isPass l _) (va_cwS 1 F.1.2.2.2.2 gX9_pass_X9_isPass rfl rfl rfl (by decide +kernel) ⟨Nat.le_of_ble_eq_true rfl, Nat.le_of_ble_eq_true rfl⟩) rfl rfl rfl (Nat.le_of_ble_eq_true rfl) dX9_pass_6 ⟨Nat.le_of_ble_eq_true rfl, Nat.le_of_ble_eq_true rfl⟩ (g_det ?_)
  refine g_ifB_ne F 18 dX9_pass_9 (by decide) (fun h1 => ?_) (fun h1 => ?_)
  · obtain ⟨k, hk1, hk2, rfl⟩ := of_rng (n := 200) (by decide) h1
    refine g_aload_n F dX9_pass_18 rfl 0 rfl ?_
    refine g_callV F (kX9_record l (M := (thM M 0)) (s := s) hs6 hs) (cwV 0 F.1.2.2.2.2 gX9_pass_X9_record rfl rfl rfl (by decide +kernel) ⟨Nat.le_of_ble_eq_true rfl, Nat.le_of_ble_eq_true rfl⟩) r709 (by decide) rfl rfl rfl rfl (Nat.le_of_ble_eq_true rfl) dX9_pass_19 ⟨Nat.le_of_ble_eq_true rfl, Nat.le_of_ble_eq_true rfl⟩ (g_det ?_)
    refine g_aload_n F dX9_pass_22 rfl 0 rfl ?_
    refine g_iload_n F dX9_pass_23 rfl 1 rfl ?_
    refine g_callV F (kX9_passes l (M := (rcM (thM M 0) s)) (k := k) (by omega) hW) (cwV 1 F.1.2.2.2.2 gX9_pass_X9_passes rfl rfl rfl (by decide +kernel) ⟨Nat.le_of_ble_eq_true rfl, Nat.le_of_ble_eq_true rfl⟩) r709 (by decide) rfl rfl rfl rfl (Nat.le_of_ble_eq_true rfl) dX9_pass_24 ⟨Nat.le_of_ble_eq_true rfl, Nat.le_of_ble_eq_true rfl⟩ (g_det ?_)
    exact K _ _ _ _ dX9_pass_27 rfl (Or.inr ⟨k, hk1, hk2, rfl, rfl, rfl⟩)
  · refine g_aload_n F dX9_pass_12 rfl 0 rfl ?_
    refine g_iconst F (v := 1) dX9_pass_13 (by decide) ?_
    refine g_callV F (kX9_fails l _) (cwV 1 F.1.2.2.2.2 gX9_pass_X9_fails rfl rfl rfl (by decide +kernel) ⟨Nat.le_of_ble_eq_true rfl, Nat.le_of_ble_eq_true rfl⟩) r709 (by decide) rfl rfl rfl rfl (Nat.le_of_ble_eq_true rfl) dX9_pass_14 ⟨Nat.le_of_ble_eq_true rfl, Nat.le_of_ble_eq_true rfl⟩ (g_det ?_)
    refine g_mem (thM_2 M 0 _) ?_
    exact K _ _ _ _ dX9_pass_17 rfl (Or.inl ⟨h1, rfl, rfl⟩)

abbrev rmX9_setChimney : Room := { frames := 2, cells := 0, slots := 0, locals := 42 }
theorem iX9_setChimney_9 : ∀ w ∈ u_ws RX9 TX9 15, w ∈ wsX9_setChimney := by decide +kernel
set_option maxHeartbeats 400000 in
set_option maxRecDepth 100000 in
theorem kX9_setChimney (l : Launch) {M : Mm} {s : Nat} (hs6 : s ≤ 6) (hs : M 709 3 = nI s) (x y z t b : Int32) : Ct l yX9_setChimney wsX9_setChimney rmX9_setChimney (fun B => [.ref (B + 709), .int x, .int y, .int z, .int t, .int b]) M (fun _ v u => ¬ (0 ≤ x ∧ x ≤ 7) ∧ v = some (.int (0)) ∧ u = thM M 1 ∨ (0 ≤ x ∧ x ≤ 7) ∧ ¬ ((0 ≤ y ∧ y ≤ 9) ∧ (0 ≤ z ∧ z ≤ 2) ∧ (2 ≤ t ∧ t ≤ 12) ∧ (0 ≤ b ∧ b ≤ 11)) ∧ v = some (.int (0)) ∧ u = thM M 2 ∨ ∃ c, c < 8 ∧ x = nI c ∧ ((0 ≤ y ∧ y ≤ 9) ∧ (0 ≤ z ∧ z ≤ 2) ∧ (2 ≤ t ∧ t ≤ 12) ∧ (0 ≤ b ∧ b ≤ 11)) ∧ v = some (.int (shR (upd (upd (upd (upd ((rcM (thM M 0) s) 710) (0 + c) y) (8 + c) z) (16 + c) t) (24 + c) b) c ((upd (upd (upd (upd ((rcM (thM M 0) s) 710) (0 + c) y) (8 + c) z) (16 + c) t) (24 + c) b) 74))) ∧ u = va_up (rcM (thM M 0) s) 710 (upd (upd (upd (upd ((rcM (thM M 0) s) 710) (0 + c) y) (8 + c) z) (16 + c) t) (24 + c) b)) := by
  refine Ct.ofI (own := RX9) (by decide +kernel) rfl rfl (fun B => Nat.le_of_ble_eq_true rfl) ?_
  intro pp ee ss mm aa bb me c9 DD ca B Tl AA QQ F K
  show G pp l ee rmX9_setChimney ss mm aa bb me c9 QQ DD ca B Tl AA 6 0 0 M 0 [(0, .ref (B + 709)), (1, .int x), (2, .int y), (3, .int z), (4, .int t), (5, .int b)] []
  refine g_aload_n F dX9_setChimney_0 rfl 0 rfl ?_
  refine g_iconst F (v := 0) dX9_setChimney_1 (by decide) ?_
  refine gp9_thrown F iX9_setChimney_9 r709 (by decide +kernel) dX9_setChimney_2 ?_
  refine g_mem (show va_up M 709 (upd (M 709) 0 0) = thM M 0 from rfl) ?_
  refine g_iload_n F dX9_setChimney_5 rfl 1 rfl ?_
  refine g_callS F (kX9_isChimney l _) (va_cwS 1 F.1.2.2.2.2 gX9_setChimney_X9_isChimney rfl rfl rfl (by decide +kernel) ⟨Nat.le_of_ble_eq_true rfl, Nat.le_of_ble_eq_true rfl⟩) rfl rfl rfl (Nat.le_of_ble_eq_true rfl) dX9_setChimney_6 ⟨Nat.le_of_ble_eq_true rfl, Nat.le_of_ble_eq_true rfl⟩ (g_det ?_)
  refine g_ifB_ne F 18 dX9_setChimney_9 (by decide) (fun h1 => ?_) (fun h1 => ?_)
  · obtain ⟨c, hc_, rfl⟩ := ofk (n := 7) (by decide) h1
    have hc : c < 8 := by omega
    refine g_iload_n F dX9_setChimney_18 rfl 2 rfl ?_
    refine g_iconst F (v := 0) dX9_setChimney_19 (by decide) ?_
    refine g_bipush F (v := 9) dX9_setChimney_20 (by decide +kernel) ?_
    refine g_callS F (kX9_within l _ _ _) (va_cwS 3 F.1.2.2.2.2 gX9_setChimney_X9_within rfl rfl rfl (by decide +kernel) ⟨Nat.le_of_ble_eq_true rfl, Nat.le_of_ble_eq_true rfl⟩) rfl rfl rfl (Nat.le_of_ble_eq_true rfl) dX9_setChimney_22 ⟨Nat.le_of_ble_eq_true rfl, Nat.le_of_ble_eq_true rfl⟩ (g_det ?_)
    refine g_ifB_eq F 59 dX9_setChimney_25 (by decide) (fun h2 => ?_) (fun h2 => ?_)
    · refine g_aload_n F dX9_setChimney_59 rfl 0 rfl ?_
      refine g_iconst F (v := 2) dX9_setChimney_60 (by decide) ?_
      refine g_callV F (kX9_fails l _) (cwV 1 F.1.2.2.2.2 gX9_setChimney_X9_fails rfl rfl rfl (by decide +kernel) ⟨Nat.le_of_ble_eq_true rfl, Nat.le_of_ble_eq_true rfl⟩) r709 (by decide) rfl rfl rfl rfl (Nat.le_of_ble_eq_true rfl) dX9_setChimney_61 ⟨Nat.le_of_ble_eq_true rfl, Nat.le_of_ble_eq_true rfl⟩ (g_det ?_)
      refine g_mem (thM_2 M 0 _) ?_
      exact K _ _ _ _ dX9_setChimney_64 rfl (by first | exact Or.inl ⟨h1, rfl, rfl⟩ | exact Or.inr (Or.inl ⟨in_k hc_ (by decide), (by first | exact fun q => h2 q.1 | exact fun q => h3 q.2.1 | exact fun q => h4 q.2.2.1 | exact fun q => h5 q.2.2.2), rfl, rfl⟩) | exact Or.inr (Or.inr ⟨c, hc, rfl, ⟨h2, h3, h4, h5⟩, rfl, rfl⟩))
    · refine g_iload_n F dX9_setChimney_28 rfl 3 rfl ?_
      refine g_iconst F (v := 0) dX9_setChimney_29 (by decide) ?_
      refine g_iconst F (v := 2) dX9_setChimney_30 (by decide) ?_
      refine g_callS F (kX9_within l _ _ _) (va_cwS 3 F.1.2.2.2.2 gX9_setChimney_X9_within rfl rfl rfl (by decide +kernel) ⟨Nat.le_of_ble_eq_true rfl, Nat.le_of_ble_eq_true rfl⟩) rfl rfl rfl (Nat.le_of_ble_eq_true rfl) dX9_setChimney_31 ⟨Nat.le_of_ble_eq_true rfl, Nat.le_of_ble_eq_true rfl⟩ (g_det ?_)
      refine g_ifB_eq F 59 dX9_setChimney_34 (by decide) (fun h3 => ?_) (fun h3 => ?_)
      · refine g_aload_n F dX9_setChimney_59 rfl 0 rfl ?_
        refine g_iconst F (v := 2) dX9_setChimney_60 (by decide) ?_
        refine g_callV F (kX9_fails l _) (cwV 1 F.1.2.2.2.2 gX9_setChimney_X9_fails rfl rfl rfl (by decide +kernel) ⟨Nat.le_of_ble_eq_true rfl, Nat.le_of_ble_eq_true rfl⟩) r709 (by decide) rfl rfl rfl rfl (Nat.le_of_ble_eq_true rfl) dX9_setChimney_61 ⟨Nat.le_of_ble_eq_true rfl, Nat.le_of_ble_eq_true rfl⟩ (g_det ?_)
        refine g_mem (thM_2 M 0 _) ?_
        exact K _ _ _ _ dX9_setChimney_64 rfl (by first | exact Or.inl ⟨h1, rfl, rfl⟩ | exact Or.inr (Or.inl ⟨in_k hc_ (by decide), (by first | exact fun q => h2 q.1 | exact fun q => h3 q.2.1 | exact fun q => h4 q.2.2.1 | exact fun q => h5 q.2.2.2), rfl, rfl⟩) | exact Or.inr (Or.inr ⟨c, hc, rfl, ⟨h2, h3, h4, h5⟩, rfl, rfl⟩))
      · refine g_iload F dX9_setChimney_37 4 rfl ?_
        refine g_iconst F (v := 2) dX9_setChimney_39 (by decide) ?_
        refine g_bipush F (v := 12) dX9_setChimney_40 (by decide +kernel) ?_
        refine g_callS F (kX9_within l _ _ _) (va_cwS 3 F.1.2.2.2.2 gX9_setChimney_X9_within rfl rfl rfl (by decide +kernel) ⟨Nat.le_of_ble_eq_true rfl, Nat.le_of_ble_eq_true rfl⟩) rfl rfl rfl (Nat.le_of_ble_eq_true rfl) dX9_setChimney_42 ⟨Nat.le_of_ble_eq_true rfl, Nat.le_of_ble_eq_true rfl⟩ (g_det ?_)
        refine g_ifB_eq F 59 dX9_setChimney_45 (by decide) (fun h4 => ?_) (fun h4 => ?_)
        · refine g_aload_n F dX9_setChimney_59 rfl 0 rfl ?_
          refine g_iconst F (v := 2) dX9_setChimney_60 (by decide) ?_
          refine g_callV F (kX9_fails l _) (cwV 1 F.1.2.2.2.2 gX9_setChimney_X9_fails rfl rfl rfl (by decide +kernel) ⟨Nat.le_of_ble_eq_true rfl, Nat.le_of_ble_eq_true rfl⟩) r709 (by decide) rfl rfl rfl rfl (Nat.le_of_ble_eq_true rfl) dX9_setChimney_61 ⟨Nat.le_of_ble_eq_true rfl, Nat.le_of_ble_eq_true rfl⟩ (g_det ?_)
          refine g_mem (thM_2 M 0 _) ?_
          exact K _ _ _ _ dX9_setChimney_64 rfl (by first | exact Or.inl ⟨h1, rfl, rfl⟩ | exact Or.inr (Or.inl ⟨in_k hc_ (by decide), (by first | exact fun q => h2 q.1 | exact fun q => h3 q.2.1 | exact fun q => h4 q.2.2.1 | exact fun q => h5 q.2.2.2), rfl, rfl⟩) | exact Or.inr (Or.inr ⟨c, hc, rfl, ⟨h2, h3, h4, h5⟩, rfl, rfl⟩))
        · refine g_iload F dX9_setChimney_48 5 rfl ?_
          refine g_iconst F (v := 0) dX9_setChimney_50 (by decide) ?_
          refine g_bipush F (v := 11) dX9_setChimney_51 (by decide +kernel) ?_
          refine g_callS F (kX9_within l _ _ _) (va_cwS 3 F.1.2.2.2.2 gX9_setChimney_X9_within rfl rfl rfl (by decide +kernel) ⟨Nat.le_of_ble_eq_true rfl, Nat.le_of_ble_eq_true rfl⟩) rfl rfl rfl (Nat.le_of_ble_eq_true rfl) dX9_setChimney_53 ⟨Nat.le_of_ble_eq_true rfl, Nat.le_of_ble_eq_true rfl⟩ (g_det ?_)
          refine g_ifB_ne F 65 dX9_setChimney_56 (by decide) (fun h5 => ?_) (fun h5 => ?_)
          · refine g_aload_n F dX9_setChimney_65 rfl 0 rfl ?_
            refine g_callV F (kX9_record l (M := (thM M 0)) (s := s) hs6 hs) (cwV 0 F.1.2.2.2.2 gX9_setChimney_X9_record rfl rfl rfl (by decide +kernel) ⟨Nat.le_of_ble_eq_true rfl, Nat.le_of_ble_eq_true rfl⟩) r709 (by decide) rfl rfl rfl rfl (Nat.le_of_ble_eq_true rfl) dX9_setChimney_66 ⟨Nat.le_of_ble_eq_true rfl, Nat.le_of_ble_eq_true rfl⟩ (g_det ?_)
            refine g_aload_n F dX9_setChimney_69 rfl 0 rfl ?_
            refine gg9_state F iX9_setChimney_9 r709 (by decide +kernel) dX9_setChimney_70 ?_
            refine g_iconst F (v := 0) dX9_setChimney_73 (by decide) ?_
            refine g_iload_n F dX9_setChimney_74 rfl 1 rfl ?_
            refine g_iadd F dX9_setChimney_75 ?_
            refine g_top (nI_add (0) (c)) ?_
            refine g_iload_n F dX9_setChimney_76 rfl 2 rfl ?_
            refine g_iastore (r := 710) F a710 ((0 + c)) rfl (by omega) (by decide) dX9_setChimney_77 ?_
            try simp only [bx_uu, va_up_self]
            refine g_aload_n F dX9_setChimney_78 rfl 0 rfl ?_
            refine gg9_state F iX9_setChimney_9 r709 (by decide +kernel) dX9_setChimney_79 ?_
            refine g_bipush F (v := 8) dX9_setChimney_82 (by decide +kernel) ?_
            refine g_iload_n F dX9_setChimney_84 rfl 1 rfl ?_
            refine g_iadd F dX9_setChimney_85 ?_
            refine g_top (nI_add (8) (c)) ?_
            refine g_iload_n F dX9_setChimney_86 rfl 3 rfl ?_
            refine g_iastore (r := 710) F a710 ((8 + c)) rfl (by omega) (by decide) dX9_setChimney_87 ?_
            try simp only [bx_uu, va_up_self]
            refine g_aload_n F dX9_setChimney_88 rfl 0 rfl ?_
            refine gg9_state F iX9_setChimney_9 r709 (by decide +kernel) dX9_setChimney_89 ?_
            refine g_bipush F (v := 16) dX9_setChimney_92 (by decide +kernel) ?_
            refine g_iload_n F dX9_setChimney_94 rfl 1 rfl ?_
            refine g_iadd F dX9_setChimney_95 ?_
            refine g_top (nI_add (16) (c)) ?_
            refine g_iload F dX9_setChimney_96 4 rfl ?_
            refine g_iastore (r := 710) F a710 ((16 + c)) rfl (by omega) (by decide) dX9_setChimney_98 ?_
            try simp only [bx_uu, va_up_self]
            refine g_aload_n F dX9_setChimney_99 rfl 0 rfl ?_
            refine gg9_state F iX9_setChimney_9 r709 (by decide +kernel) dX9_setChimney_100 ?_
            refine g_bipush F (v := 24) dX9_setChimney_103 (by decide +kernel) ?_
            refine g_iload_n F dX9_setChimney_105 rfl 1 rfl ?_
            refine g_iadd F dX9_setChimney_106 ?_
            refine g_top (nI_add (24) (c)) ?_
            refine g_iload F dX9_setChimney_107 5 rfl ?_
            refine g_iastore (r := 710) F a710 ((24 + c)) rfl (by omega) (by decide) dX9_setChimney_109 ?_
            try simp only [bx_uu, va_up_self]
            refine g_aload_n F dX9_setChimney_110 rfl 0 rfl ?_
            refine g_iload_n F dX9_setChimney_111 rfl 1 rfl ?_
            refine g_aload_n F dX9_setChimney_112 rfl 0 rfl ?_
            refine gg9_state F iX9_setChimney_9 r709 (by decide +kernel) dX9_setChimney_113 ?_
            refine g_bipush F (v := 74) dX9_setChimney_116 (by decide +kernel) ?_
            refine g_iaload (r := 710) F a710 (74) rfl (by omega) (by decide) dX9_setChimney_118 ?_
            refine g_callV F (kX9_shade l (M := va_up (rcM (thM M 0) s) 710 (upd (upd (upd (upd ((rcM (thM M 0) s) 710) (0 + c) y) (8 + c) z) (16 + c) t) (24 + c) b)) (c := c) (by omega) (by rw [va_up_self, upd_ne _ _ (by omega), upd_at]; exact fun z => absurd (z ▸ h4.1) (by decide)) _) (cwV 2 F.1.2.2.2.2 gX9_setChimney_X9_shade rfl rfl rfl (by decide +kernel) ⟨Nat.le_of_ble_eq_true rfl, Nat.le_of_ble_eq_true rfl⟩) r709 (by decide) rfl rfl rfl rfl (Nat.le_of_ble_eq_true rfl) dX9_setChimney_119 ⟨Nat.le_of_ble_eq_true rfl, Nat.le_of_ble_eq_true rfl⟩ (g_det ?_)
            refine g_top (congrArg (fun f => shR f c (f 74)) (va_up_self (rcM (thM M 0) s) 710 (upd (upd (upd (upd ((rcM (thM M 0) s) 710) (0 + c) y) (8 + c) z) (16 + c) t) (24 + c) b))) ?_
            exact K _ _ _ _ dX9_setChimney_122 rfl (by first | exact Or.inl ⟨h1, rfl, rfl⟩ | exact Or.inr (Or.inl ⟨in_k hc_ (by decide), (by first | exact fun q => h2 q.1 | exact fun q => h3 q.2.1 | exact fun q => h4 q.2.2.1 | exact fun q => h5 q.2.2.2), rfl, rfl⟩) | exact Or.inr (Or.inr ⟨c, hc, rfl, ⟨h2, h3, h4, h5⟩, rfl, rfl⟩))
          · refine g_aload_n F dX9_setChimney_59 rfl 0 rfl ?_
            refine g_iconst F (v := 2) dX9_setChimney_60 (by decide) ?_
            refine g_callV F (kX9_fails l _) (cwV 1 F.1.2.2.2.2 gX9_setChimney_X9_fails rfl rfl rfl (by decide +kernel) ⟨Nat.le_of_ble_eq_true rfl, Nat.le_of_ble_eq_true rfl⟩) r709 (by decide) rfl rfl rfl rfl (Nat.le_of_ble_eq_true rfl) dX9_setChimney_61 ⟨Nat.le_of_ble_eq_true rfl, Nat.le_of_ble_eq_true rfl⟩ (g_det ?_)
            refine g_mem (thM_2 M 0 _) ?_
            exact K _ _ _ _ dX9_setChimney_64 rfl (by first | exact Or.inl ⟨h1, rfl, rfl⟩ | exact Or.inr (Or.inl ⟨in_k hc_ (by decide), (by first | exact fun q => h2 q.1 | exact fun q => h3 q.2.1 | exact fun q => h4 q.2.2.1 | exact fun q => h5 q.2.2.2), rfl, rfl⟩) | exact Or.inr (Or.inr ⟨c, hc, rfl, ⟨h2, h3, h4, h5⟩, rfl, rfl⟩))
  · refine g_aload_n F dX9_setChimney_12 rfl 0 rfl ?_
    refine g_iconst F (v := 1) dX9_setChimney_13 (by decide) ?_
    refine g_callV F (kX9_fails l _) (cwV 1 F.1.2.2.2.2 gX9_setChimney_X9_fails rfl rfl rfl (by decide +kernel) ⟨Nat.le_of_ble_eq_true rfl, Nat.le_of_ble_eq_true rfl⟩) r709 (by decide) rfl rfl rfl rfl (Nat.le_of_ble_eq_true rfl) dX9_setChimney_14 ⟨Nat.le_of_ble_eq_true rfl, Nat.le_of_ble_eq_true rfl⟩ (g_det ?_)
    refine g_mem (thM_2 M 0 _) ?_
    exact K _ _ _ _ dX9_setChimney_17 rfl (by first | exact Or.inl ⟨h1, rfl, rfl⟩ | exact Or.inr (Or.inl ⟨in_k hc_ (by decide), (by first | exact fun q => h2 q.1 | exact fun q => h3 q.2.1 | exact fun q => h4 q.2.2.1 | exact fun q => h5 q.2.2.2), rfl, rfl⟩) | exact Or.inr (Or.inr ⟨c, hc, rfl, ⟨h2, h3, h4, h5⟩, rfl, rfl⟩))
