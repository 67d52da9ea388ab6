/-- row a of the history (or of the slots) -/
abbrev rwA (h : Nat → Int32) (a : Nat) : Nat → Int32 := fun j => h (a * 1804 + j)
def ud1 (M : Mm) (s : Nat) : Mm := va_up (thM M 0) 709 (upd (thM M 0 709) 3 (nI (s - 1)))

abbrev rmX9_undo : Room := { frames := 1, cells := 0, slots := 0, locals := 21 }
theorem iX9_undo_9 : ∀ w ∈ u_ws RX9 TX9 15, w ∈ wsX9_undo := by decide +kernel
set_option maxHeartbeats 200000 in
set_option maxRecDepth 100000 in
theorem kX9_undo (l : Launch) {M : Mm} {s : Nat} (hs6 : s ≤ 6) (hs : M 709 3 = nI s) : Ct l yX9_undo wsX9_undo rmX9_undo (fun B => [.ref (B + 709)]) M (fun _ v u => s = 0 ∧ v = some (.int (0)) ∧ u = thM M 1 ∨ 1 ≤ s ∧ v = some (.int (nI (s - 1))) ∧ u = va_up (ud1 M s) 710 (cpW (M 710) (rwA (M 711) (s - 1)) 1804)) := by
  refine Ct.ofI (own := RX9) (by decide +kernel) rfl rfl (fun B => Nat.le_of_ble_eq_true rfl) ?_
  intro pp ee ss mm aa bb me c9 DD ca B Tl AA QQ F K
  show G pp l ee rmX9_undo ss mm aa bb me c9 QQ DD ca B Tl AA 2 0 0 M 0 [(0, .ref (B + 709))] []
  refine g_aload_n F dX9_undo_0 rfl 0 rfl ?_
  refine g_iconst F (v := 0) dX9_undo_1 (by decide) ?_
  refine gp9_thrown F iX9_undo_9 r709 (by decide +kernel) dX9_undo_2 ?_
  refine g_mem (show va_up M 709 (upd (M 709) 0 0) = thM M 0 from rfl) ?_
  refine g_aload_n F dX9_undo_5 rfl 0 rfl ?_
  refine gg9_states F iX9_undo_9 r709 (by decide +kernel) dX9_undo_6 ?_
  refine g_if_ne F 18 dX9_undo_9 (by decide) (fun h1 => ?_) (fun h1 => ?_)
  · have hs1 : 1 ≤ s := Nat.one_le_iff_ne_zero.mpr (fun z => h1 (hs.trans (by rw [z]; rfl)))
    refine g_aload_n F dX9_undo_18 rfl 0 rfl ?_
    refine g_dup F dX9_undo_19 rfl ?_
    refine gg9_states F iX9_undo_9 r709 (by decide +kernel) dX9_undo_20 ?_
    refine g_top (y := nI s) hs ?_
    refine g_iconst F (v := 1) dX9_undo_23 (by decide) ?_
    refine g_isub F dX9_undo_24 ?_
    refine g_top (pk_sub (a := s) (b := 1) (by omega)) ?_
    refine gp9_states F iX9_undo_9 r709 (by decide +kernel) dX9_undo_25 ?_
    refine g_mem (show _ = (ud1 M s) from rfl) ?_
    refine g_iconst F (v := 0) dX9_undo_28 (by decide) ?_
    refine g_istore_n F (lv2 := [(1, _), (0, _)]) dX9_undo_29 rfl (by decide) rfl ?_
    have LP : ∀ (ni i : Nat), i + ni = 1804 → G pp l ee rmX9_undo ss mm aa bb me c9 QQ DD ca B Tl AA 2 0 0 (va_up (ud1 M s) 710 (cpW (M 710) (rwA (M 711) (s - 1)) i)) 30 [(1, .int (nI i)), (0, .ref (B + 709))] [] := by
      intro ni
      induction ni with
      | zero =>
        intro i hni
        refine g_iload_n F dX9_undo_30 rfl 0 rfl ?_
        refine g_sipush F (v := 1804) dX9_undo_31 (by decide +kernel) ?_
        refine g_icmpN_ge F 64 dX9_undo_34 (by decide) (i) (1804) rfl rfl (by omega) (by omega) (fun hci => ?_) (fun hci => ?_)
        · obtain rfl : i = 1804 := by omega
          refine g_aload_n F dX9_undo_64 rfl 1 rfl ?_
          refine gg9_states F iX9_undo_9 r709 (by decide +kernel) dX9_undo_65 ?_
          refine g_top (y := nI (s - 1)) (by rfl) ?_
          exact K _ _ _ _ dX9_undo_68 rfl (Or.inr ⟨hs1, rfl, rfl⟩)
        · exact absurd hci (by omega)
      | succ ni ihi =>
        intro i hni
        refine g_iload_n F dX9_undo_30 rfl 0 rfl ?_
        refine g_sipush F (v := 1804) dX9_undo_31 (by decide +kernel) ?_
        refine g_icmpN_ge F 64 dX9_undo_34 (by decide) (i) (1804) rfl rfl (by omega) (by omega) (fun hci => ?_) (fun hci => ?_)
        · exact absurd hci (by omega)
        · refine g_aload_n F dX9_undo_37 rfl 1 rfl ?_
          refine gg9_state F iX9_undo_9 r709 (by decide +kernel) dX9_undo_38 ?_
          refine g_iload_n F dX9_undo_41 rfl 0 rfl ?_
          refine g_aload_n F dX9_undo_42 rfl 1 rfl ?_
          refine gg9_history F iX9_undo_9 r709 (by decide +kernel) dX9_undo_43 ?_
          refine g_aload_n F dX9_undo_46 rfl 1 rfl ?_
          refine gg9_states F iX9_undo_9 r709 (by decide +kernel) dX9_undo_47 ?_
          refine g_top (y := nI (s - 1)) (by rfl) ?_
          refine g_sipush F (v := 1804) dX9_undo_50 (by decide +kernel) ?_
          refine g_imul F dX9_undo_53 ?_
          refine g_top (pk_mul ((s - 1)) (1804)) ?_
          refine g_iload_n F dX9_undo_54 rfl 0 rfl ?_
          refine g_iadd F dX9_undo_55 ?_
          refine g_top (nI_add (((s - 1) * 1804)) (i)) ?_
          refine g_iaload (r := 711) F a711 ((((s - 1) * 1804) + i)) rfl (by omega) (by decide) dX9_undo_56 ?_
          refine g_iastore (r := 710) F a710 (i) rfl (by omega) (by decide) dX9_undo_57 ?_
          refine g_iinc F (lv2 := [(1, _), (0, _)]) dX9_undo_58 0 rfl (nI_1 _) (by decide) rfl ?_
          refine g_goto F 30 dX9_undo_61 (by decide) ?_
          refine g_lv (lv2 := [(1, _), (0, _)]) [0, 1] rfl ?_
          exact g_is (by rw [bx_uu, va_up_self]; exact congrArg (va_up _ 710) (cpW_up (M 710) (rwA (M 711) (s - 1)) i)) rfl (ihi (i + 1) (by omega))
    refine g_lv (lv2 := [(1, _), (0, _)]) [0, 1] rfl ?_
    exact g_is (by rw [cpW_0]; exact (up_id (ud1 M s) 710).symm) rfl (LP (1804 - 0) (0) (by omega))
  · have hs0 : s = 0 := by have e9 : nI s = nI 0 := hs.symm.trans h1; exact nI_inj (by omega) (by decide) e9
    refine g_aload_n F dX9_undo_12 rfl 0 rfl ?_
    refine g_iconst F (v := 1) dX9_undo_13 (by decide) ?_
    refine g_callV F (kX9_fails l _) (cwV 1 F.1.2.2.2.2 gX9_undo_X9_fails rfl rfl rfl (by decide +kernel) ⟨Nat.le_of_ble_eq_true rfl, Nat.le_of_ble_eq_true rfl⟩) r709 (by decide) rfl rfl rfl rfl (Nat.le_of_ble_eq_true rfl) dX9_undo_14 ⟨Nat.le_of_ble_eq_true rfl, Nat.le_of_ble_eq_true rfl⟩ (g_det ?_)
    refine g_mem (thM_2 M 0 _) ?_
    exact K _ _ _ _ dX9_undo_17 rfl (Or.inl ⟨hs0, rfl, rfl⟩)

abbrev rmX9_save : Room := { frames := 1, cells := 0, slots := 0, locals := 22 }
theorem iX9_save_9 : ∀ w ∈ u_ws RX9 TX9 15, w ∈ wsX9_save := by decide +kernel
set_option maxHeartbeats 200000 in
set_option maxRecDepth 100000 in
theorem kX9_save (l : Launch) {M : Mm} {n : Nat} (hn : M 710 75 = nI n) (hn20 : n ≤ 20) (x : Int32) : Ct l yX9_save wsX9_save rmX9_save (fun B => [.ref (B + 709), .int x]) M (fun _ v u => ¬ (0 ≤ x ∧ x ≤ 1) ∧ v = some (.int (0)) ∧ u = thM M 1 ∨ ∃ a, a < 2 ∧ x = nI a ∧ v = some (.int (staR (M 710) n)) ∧ u = (va_up (va_up (thM M 0) 712 (wrW (M 712) (a * 1804) (M 710) 1804)) 713 (upd (M 713) a 1))) := by
  refine Ct.ofI (own := RX9) (by decide +kernel) rfl rfl (fun B => Nat.le_of_ble_eq_true rfl) ?_
  intro pp ee ss mm aa bb me c9 DD ca B Tl AA QQ F K
  show G pp l ee rmX9_save ss mm aa bb me c9 QQ DD ca B Tl AA 3 0 0 M 0 [(0, .ref (B + 709)), (1, .int x)] []
  refine g_aload_n F dX9_save_0 rfl 0 rfl ?_
  refine g_iconst F (v := 0) dX9_save_1 (by decide) ?_
  refine gp9_thrown F iX9_save_9 r709 (by decide +kernel) dX9_save_2 ?_
  refine g_mem (show va_up M 709 (upd (M 709) 0 0) = thM M 0 from rfl) ?_
  refine g_iload_n F dX9_save_5 rfl 1 rfl ?_
  refine g_iconst F (v := 0) dX9_save_6 (by decide) ?_
  refine g_iconst F (v := 1) dX9_save_7 (by decide) ?_
  refine g_callS F (kX9_within l _ _ _) (va_cwS 3 F.1.2.2.2.2 gX9_save_X9_within rfl rfl rfl (by decide +kernel) ⟨Nat.le_of_ble_eq_true rfl, Nat.le_of_ble_eq_true rfl⟩) rfl rfl rfl (Nat.le_of_ble_eq_true rfl) dX9_save_8 ⟨Nat.le_of_ble_eq_true rfl, Nat.le_of_ble_eq_true rfl⟩ (g_det ?_)
  refine g_ifB_ne F 20 dX9_save_11 (by decide) (fun h1 => ?_) (fun h1 => ?_)
  · obtain ⟨a, ha_, rfl⟩ := ofk (n := 1) (by decide) h1
    have ha : a < 2 := by omega
    refine g_iconst F (v := 0) dX9_save_20 (by decide) ?_
    refine g_istore_n F (lv2 := [(2, _), (0, _), (1, _)]) dX9_save_21 rfl (by decide) rfl ?_
    have LP : ∀ (ni i : Nat), i + ni = 1804 → G pp l ee rmX9_save ss mm aa bb me c9 QQ DD ca B Tl AA 3 0 0 (va_up (thM M 0) 712 (wrW (M 712) (a * 1804) (M 710) i)) 22 [(2, .int (nI i)), (0, .ref (B + 709)), (1, .int (nI a))] [] := by
      intro ni
      induction ni with
      | zero =>
        intro i hni
        refine g_iload_n F dX9_save_22 rfl 0 rfl ?_
        refine g_sipush F (v := 1804) dX9_save_23 (by decide +kernel) ?_
        refine g_icmpN_ge F 53 dX9_save_26 (by decide) (i) (1804) rfl rfl (by omega) (by omega) (fun hci => ?_) (fun hci => ?_)
        · obtain rfl : i = 1804 := by omega
          refine g_aload_n F dX9_save_53 rfl 1 rfl ?_
          refine gg9_isSaved F iX9_save_9 r709 (by decide +kernel) dX9_save_54 ?_
          refine g_iload_n F dX9_save_57 rfl 2 rfl ?_
          refine g_iconst F (v := 1) dX9_save_58 (by decide) ?_
          refine g_iastore (r := 713) F a713 (a) rfl (by omega) (by decide) dX9_save_59 ?_
          refine g_mem (show _ = (va_up (va_up (thM M 0) 712 (wrW (M 712) (a * 1804) (M 710) 1804)) 713 (upd (M 713) a 1)) from rfl) ?_
          refine g_aload_n F dX9_save_60 rfl 1 rfl ?_
          refine g_callV F (kX9_standing l (M := (va_up (va_up (thM M 0) 712 (wrW (M 712) (a * 1804) (M 710) 1804)) 713 (upd (M 713) a 1))) n hn hn20) (cwV 0 F.1.2.2.2.2 gX9_save_X9_standing rfl rfl rfl (by decide +kernel) ⟨Nat.le_of_ble_eq_true rfl, Nat.le_of_ble_eq_true rfl⟩) r709 (by decide) rfl rfl rfl rfl (Nat.le_of_ble_eq_true rfl) dX9_save_61 ⟨Nat.le_of_ble_eq_true rfl, Nat.le_of_ble_eq_true rfl⟩ (g_det ?_)
          refine g_top (show _ = staR (M 710) n from rfl) ?_
          exact K _ _ _ _ dX9_save_64 rfl (Or.inr ⟨a, ha, rfl, rfl, rfl⟩)
        · exact absurd hci (by omega)
      | succ ni ihi =>
        intro i hni
        refine g_iload_n F dX9_save_22 rfl 0 rfl ?_
        refine g_sipush F (v := 1804) dX9_save_23 (by decide +kernel) ?_
        refine g_icmpN_ge F 53 dX9_save_26 (by decide) (i) (1804) rfl rfl (by omega) (by omega) (fun hci => ?_) (fun hci => ?_)
        · exact absurd hci (by omega)
        · refine g_aload_n F dX9_save_29 rfl 1 rfl ?_
          refine gg9_slots F iX9_save_9 r709 (by decide +kernel) dX9_save_30 ?_
          refine g_iload_n F dX9_save_33 rfl 2 rfl ?_
          refine g_sipush F (v := 1804) dX9_save_34 (by decide +kernel) ?_
          refine g_imul F dX9_save_37 ?_
          refine g_top (pk_mul (a) (1804)) ?_
          refine g_iload_n F dX9_save_38 rfl 0 rfl ?_
          refine g_iadd F dX9_save_39 ?_
          refine g_top (nI_add ((a * 1804)) (i)) ?_
          refine g_aload_n F dX9_save_40 rfl 1 rfl ?_
          refine gg9_state F iX9_save_9 r709 (by decide +kernel) dX9_save_41 ?_
          refine g_iload_n F dX9_save_44 rfl 0 rfl ?_
          refine g_iaload (r := 710) F a710 (i) rfl (by omega) (by decide) dX9_save_45 ?_
          refine g_iastore (r := 712) F a712 (((a * 1804) + i)) rfl (by omega) (by decide) dX9_save_46 ?_
          refine g_iinc F (lv2 := [(2, _), (0, _), (1, _)]) dX9_save_47 0 rfl (nI_1 _) (by decide) rfl ?_
          refine g_goto F 22 dX9_save_50 (by decide) ?_
          refine g_lv (lv2 := [(2, _), (0, _), (1, _)]) [0, 1, 2] rfl ?_
          exact g_is (by rw [bx_uu, va_up_self]; exact congrArg (va_up _ 712) (wrW_up _ _ _ _)) rfl (ihi (i + 1) (by omega))
    refine g_lv (lv2 := [(2, _), (0, _), (1, _)]) [0, 1, 2] rfl ?_
    exact g_is (by rw [wrW_0]; exact (up_id (thM M 0) 712).symm) rfl (LP (1804 - 0) (0) (by omega))
  · refine g_aload_n F dX9_save_14 rfl 0 rfl ?_
    refine g_iconst F (v := 1) dX9_save_15 (by decide) ?_
    refine g_callV F (kX9_fails l _) (cwV 1 F.1.2.2.2.2 gX9_save_X9_fails rfl rfl rfl (by decide +kernel) ⟨Nat.le_of_ble_eq_true rfl, Nat.le_of_ble_eq_true rfl⟩) r709 (by decide) rfl rfl rfl rfl (Nat.le_of_ble_eq_true rfl) dX9_save_16 ⟨Nat.le_of_ble_eq_true rfl, Nat.le_of_ble_eq_true rfl⟩ (g_det ?_)
    refine g_mem (thM_2 M 0 _) ?_
    exact K _ _ _ _ dX9_save_19 rfl (Or.inl ⟨h1, rfl, rfl⟩)

abbrev rmX9_restore : Room := { frames := 1, cells := 0, slots := 0, locals := 22 }
theorem iX9_restore_9 : ∀ w ∈ u_ws RX9 TX9 15, w ∈ wsX9_restore := by decide +kernel
set_option maxHeartbeats 200000 in
set_option maxRecDepth 100000 in
theorem kX9_restore (l : Launch) {M : Mm} {s : Nat} (hs6 : s ≤ 6) (hs : M 709 3 = nI s) (hK : ∀ a, a < 2 → ∃ n, n ≤ 20 ∧ M 712 (a * 1804 + 75) = nI n) (x : Int32) : Ct l yX9_restore wsX9_restore rmX9_restore (fun B => [.ref (B + 709), .int x]) M (fun _ v u => ¬ (0 ≤ x ∧ x ≤ 1) ∧ v = some (.int (0)) ∧ u = thM M 1 ∨ ∃ a, a < 2 ∧ x = nI a ∧ (M 713 a = 0 ∧ v = some (.int (0)) ∧ u = thM M 2 ∨ ¬ M 713 a = 0 ∧ ∃ n, n ≤ 20 ∧ M 712 (a * 1804 + 75) = nI n ∧ v = some (.int (staR (cpW (M 710) (rwA (M 712) a) 1804) n)) ∧ u = (va_up (rcM (thM M 0) s) 710 (cpW (M 710) (rwA (M 712) a) 1804)))) := by
  refine Ct.ofI (own := RX9) (by decide +kernel) rfl rfl (fun B => Nat.le_of_ble_eq_true rfl) ?_
  intro pp ee ss mm aa bb me c9 DD ca B Tl AA QQ F K
  show G pp l ee rmX9_restore ss mm aa bb me c9 QQ DD ca B Tl AA 3 0 0 M 0 [(0, .ref (B + 709)), (1, .int x)] []
  refine g_aload_n F dX9_restore_0 rfl 0 rfl ?_
  refine g_iconst F (v := 0) dX9_restore_1 (by decide) ?_
  refine gp9_thrown F iX9_restore_9 r709 (by decide +kernel) dX9_restore_2 ?_
  refine g_mem (show va_up M 709 (upd (M 709) 0 0) = thM M 0 from rfl) ?_
  refine g_iload_n F dX9_restore_5 rfl 1 rfl ?_
  refine g_iconst F (v := 0) dX9_restore_6 (by decide) ?_
  refine g_iconst F (v := 1) dX9_restore_7 (by decide) ?_
  refine g_callS F (kX9_within l _ _ _) (va_cwS 3 F.1.2.2.2.2 gX9_restore_X9_within rfl rfl rfl (by decide +kernel) ⟨Nat.le_of_ble_eq_true rfl, Nat.le_of_ble_eq_true rfl⟩) rfl rfl rfl (Nat.le_of_ble_eq_true rfl) dX9_restore_8 ⟨Nat.le_of_ble_eq_true rfl, Nat.le_of_ble_eq_true rfl⟩ (g_det ?_)
  refine g_ifB_ne F 20 dX9_restore_11 (by decide) (fun h1 => ?_) (fun h1 => ?_)
  · obtain ⟨a, ha_, rfl⟩ := ofk (n := 1) (by decide) h1
    have ha : a < 2 := by omega
    refine g_aload_n F dX9_restore_20 rfl 0 rfl ?_
    refine gg9_isSaved F iX9_restore_9 r709 (by decide +kernel) dX9_restore_21 ?_
    refine g_iload_n F dX9_restore_24 rfl 1 rfl ?_
    refine g_iaload (r := 713) F a713 (a) rfl (by omega) (by decide) dX9_restore_25 ?_
    refine g_if_ne F 35 dX9_restore_26 (by decide) (fun h2 => ?_) (fun h2 => ?_)
    · obtain ⟨n, hn20, hn⟩ := hK a ha
      refine g_aload_n F dX9_restore_35 rfl 0 rfl ?_
      refine g_callV F (kX9_record l (M := (thM M 0)) (s := s) hs6 hs) (cwV 0 F.1.2.2.2.2 gX9_restore_X9_record rfl rfl rfl (by decide +kernel) ⟨Nat.le_of_ble_eq_true rfl, Nat.le_of_ble_eq_true rfl⟩) r709 (by decide) rfl rfl rfl rfl (Nat.le_of_ble_eq_true rfl) dX9_restore_36 ⟨Nat.le_of_ble_eq_true rfl, Nat.le_of_ble_eq_true rfl⟩ (g_det ?_)
      refine g_iconst F (v := 0) dX9_restore_39 (by decide) ?_
      refine g_istore_n F (lv2 := [(2, _), (0, _), (1, _)]) dX9_restore_40 rfl (by decide) rfl ?_
      have LP : ∀ (ni i : Nat), i + ni = 1804 → G pp l ee rmX9_restore ss mm aa bb me c9 QQ DD ca B Tl AA 3 0 0 (va_up (rcM (thM M 0) s) 710 (cpW (M 710) (rwA (M 712) a) i)) 41 [(2, .int (nI i)), (0, .ref (B + 709)), (1, .int (nI a))] [] := by
        intro ni
        induction ni with
        | zero =>
          intro i hni
          refine g_iload_n F dX9_restore_41 rfl 0 rfl ?_
          refine g_sipush F (v := 1804) dX9_restore_42 (by decide +kernel) ?_
          refine g_icmpN_ge F 72 dX9_restore_45 (by decide) (i) (1804) rfl rfl (by omega) (by omega) (fun hci => ?_) (fun hci => ?_)
          · obtain rfl : i = 1804 := by omega
            refine g_aload_n F dX9_restore_72 rfl 1 rfl ?_
            refine g_callV F (kX9_standing l (M := (va_up (rcM (thM M 0) s) 710 (cpW (M 710) (rwA (M 712) a) 1804))) n (by rw [va_up_self]; exact hn) hn20) (cwV 0 F.1.2.2.2.2 gX9_restore_X9_standing rfl rfl rfl (by decide +kernel) ⟨Nat.le_of_ble_eq_true rfl, Nat.le_of_ble_eq_true rfl⟩) r709 (by decide) rfl rfl rfl rfl (Nat.le_of_ble_eq_true rfl) dX9_restore_73 ⟨Nat.le_of_ble_eq_true rfl, Nat.le_of_ble_eq_true rfl⟩ (g_det ?_)
            refine g_top (show _ = staR (cpW (M 710) (rwA (M 712) a) 1804) n from rfl) ?_
            exact K _ _ _ _ dX9_restore_76 rfl (Or.inr ⟨a, ha, rfl, Or.inr ⟨h2, n, hn20, hn, rfl, rfl⟩⟩)
          · exact absurd hci (by omega)
        | succ ni ihi =>
          intro i hni
          refine g_iload_n F dX9_restore_41 rfl 0 rfl ?_
          refine g_sipush F (v := 1804) dX9_restore_42 (by decide +kernel) ?_
          refine g_icmpN_ge F 72 dX9_restore_45 (by decide) (i) (1804) rfl rfl (by omega) (by omega) (fun hci => ?_) (fun hci => ?_)
          · exact absurd hci (by omega)
          · refine g_aload_n F dX9_restore_48 rfl 1 rfl ?_
            refine gg9_state F iX9_restore_9 r709 (by decide +kernel) dX9_restore_49 ?_
            refine g_iload_n F dX9_restore_52 rfl 0 rfl ?_
            refine g_aload_n F dX9_restore_53 rfl 1 rfl ?_
            refine gg9_slots F iX9_restore_9 r709 (by decide +kernel) dX9_restore_54 ?_
            refine g_iload_n F dX9_restore_57 rfl 2 rfl ?_
            refine g_sipush F (v := 1804) dX9_restore_58 (by decide +kernel) ?_
            refine g_imul F dX9_restore_61 ?_
            refine g_top (pk_mul (a) (1804)) ?_
            refine g_iload_n F dX9_restore_62 rfl 0 rfl ?_
            refine g_iadd F dX9_restore_63 ?_
            refine g_top (nI_add ((a * 1804)) (i)) ?_
            refine g_iaload (r := 712) F a712 (((a * 1804) + i)) rfl (by omega) (by decide) dX9_restore_64 ?_
            refine g_iastore (r := 710) F a710 (i) rfl (by omega) (by decide) dX9_restore_65 ?_
            refine g_iinc F (lv2 := [(2, _), (0, _), (1, _)]) dX9_restore_66 0 rfl (nI_1 _) (by decide) rfl ?_
            refine g_goto F 41 dX9_restore_69 (by decide) ?_
            refine g_lv (lv2 := [(2, _), (0, _), (1, _)]) [0, 1, 2] rfl ?_
            exact g_is (by rw [bx_uu, va_up_self]; exact congrArg (va_up _ 710) (cpW_up (M 710) (rwA (M 712) a) i)) rfl (ihi (i + 1) (by omega))
      refine g_lv (lv2 := [(2, _), (0, _), (1, _)]) [0, 1, 2] rfl ?_
      exact g_is (by rw [cpW_0]; exact (up_id (rcM (thM M 0) s) 710).symm) rfl (LP (1804 - 0) (0) (by omega))
    · refine g_aload_n F dX9_restore_29 rfl 0 rfl ?_
      refine g_iconst F (v := 2) dX9_restore_30 (by decide) ?_
      refine g_callV F (kX9_fails l _) (cwV 1 F.1.2.2.2.2 gX9_restore_X9_fails rfl rfl rfl (by decide +kernel) ⟨Nat.le_of_ble_eq_true rfl, Nat.le_of_ble_eq_true rfl⟩) r709 (by decide) rfl rfl rfl rfl (Nat.le_of_ble_eq_true rfl) dX9_restore_31 ⟨Nat.le_of_ble_eq_true rfl, Nat.le_of_ble_eq_true rfl⟩ (g_det ?_)
      refine g_mem (thM_2 M 0 _) ?_
      exact K _ _ _ _ dX9_restore_34 rfl (Or.inr ⟨a, ha, rfl, Or.inl ⟨h2, rfl, rfl⟩⟩)
  · refine g_aload_n F dX9_restore_14 rfl 0 rfl ?_
    refine g_iconst F (v := 1) dX9_restore_15 (by decide) ?_
    refine g_callV F (kX9_fails l _) (cwV 1 F.1.2.2.2.2 gX9_restore_X9_fails rfl rfl rfl (by decide +kernel) ⟨Nat.le_of_ble_eq_true rfl, Nat.le_of_ble_eq_true rfl⟩) r709 (by decide) rfl rfl rfl rfl (Nat.le_of_ble_eq_true rfl) dX9_restore_16 ⟨Nat.le_of_ble_eq_true rfl, Nat.le_of_ble_eq_true rfl⟩ (g_det ?_)
    refine g_mem (thM_2 M 0 _) ?_
    exact K _ _ _ _ dX9_restore_19 rfl (Or.inl ⟨h1, rfl, rfl⟩)

theorem RW_71 {f : Nat → Int32} (y : Int32) (h : RW f) : RW (upd f 71 y) := by
  obtain ⟨t, p, n, r⟩ := h
  exact ⟨t, p, n, RV_of (fun j hj => upd_ne _ _ (by omega)) r⟩
def nbV (M : Mm) (y : Int32) (k : Nat) : Int32 := psR (upd (M 710) 71 y) k 75 - upd (M 710) 71 y 75
def nbM (M : Mm) (y : Int32) (k : Nat) : Mm := va_up (va_up M 714 (cpW (M 714) (M 710) 1804)) 710 (cpW (psR (upd (M 710) 71 y) k) (cpW (M 714) (M 710) 1804) 1804)

abbrev rmX9_noticesBehind : Room := { frames := 5, cells := 0, slots := 0, locals := 117 }
theorem iX9_noticesBehind_9 : ∀ w ∈ u_ws RX9 TX9 15, w ∈ wsX9_noticesBehind := by decide +kernel
set_option maxHeartbeats 200000 in
set_option maxRecDepth 100000 in
theorem kX9_noticesBehind (l : Launch) {M : Mm} {k : Nat} (hk : k < 1000) (hW : RW (M 710)) (y : Int32) : Ct l yX9_noticesBehind wsX9_noticesBehind rmX9_noticesBehind (fun B => [.ref (B + 709), .int (nI k), .int y]) M (fun _ v u => v = some (.int (nbV M y k)) ∧ u = nbM M y k) := by
  refine Ct.ofI (own := RX9) (by decide +kernel) rfl rfl (fun B => Nat.le_of_ble_eq_true rfl) ?_
  intro pp ee ss mm aa bb me c9 DD ca B Tl AA QQ F K
  show G pp l ee rmX9_noticesBehind ss mm aa bb me c9 QQ DD ca B Tl AA 4 0 0 M 0 [(0, .ref (B + 709)), (1, .int (nI k)), (2, .int y)] []
  refine g_aload_n F dX9_noticesBehind_0 rfl 0 rfl ?_
  refine g_callV F (kX9_putAside l) (cwV 0 F.1.2.2.2.2 gX9_noticesBehind_X9_putAside rfl rfl rfl (by decide +kernel) ⟨Nat.le_of_ble_eq_true rfl, Nat.le_of_ble_eq_true rfl⟩) r709 (by decide) rfl rfl rfl rfl (Nat.le_of_ble_eq_true rfl) dX9_noticesBehind_1 ⟨Nat.le_of_ble_eq_true rfl, Nat.le_of_ble_eq_true rfl⟩ (g_det ?_)
  refine g_aload_n F dX9_noticesBehind_4 rfl 0 rfl ?_
  refine gg9_state F iX9_noticesBehind_9 r709 (by decide +kernel) dX9_noticesBehind_5 ?_
  refine g_bipush F (v := 71) dX9_noticesBehind_8 (by decide +kernel) ?_
  refine g_iload_n F dX9_noticesBehind_10 rfl 2 rfl ?_
  refine g_iastore (r := 710) F a710 (71) rfl (by omega) (by decide) dX9_noticesBehind_11 ?_
  refine g_mem (show _ = (va_up (va_up M 714 (cpW (M 714) (M 710) 1804)) 710 (upd (M 710) 71 y)) from rfl) ?_
  refine g_aload_n F dX9_noticesBehind_12 rfl 0 rfl ?_
  refine g_iload_n F dX9_noticesBehind_13 rfl 1 rfl ?_
  refine g_callV F (kX9_passes l (M := (va_up (va_up M 714 (cpW (M 714) (M 710) 1804)) 710 (upd (M 710) 71 y))) (k := k) (by omega) (RW_71 y hW)) (cwV 1 F.1.2.2.2.2 gX9_noticesBehind_X9_passes rfl rfl rfl (by decide +kernel) ⟨Nat.le_of_ble_eq_true rfl, Nat.le_of_ble_eq_true rfl⟩) r709 (by decide) rfl rfl rfl rfl (Nat.le_of_ble_eq_true rfl) dX9_noticesBehind_14 ⟨Nat.le_of_ble_eq_true rfl, Nat.le_of_ble_eq_true rfl⟩ (g_det ?_)
  refine g_mem (show _ = (va_up (va_up M 714 (cpW (M 714) (M 710) 1804)) 710 (psR (upd (M 710) 71 y) k)) by rw [bx_uu]; rfl) ?_
  refine g_top (show _ = nbV M y k from rfl) ?_
  refine g_istore_n F (lv2 := [(3, _), (0, _), (1, _), (2, _)]) dX9_noticesBehind_17 rfl (by decide) rfl ?_
  refine g_aload_n F dX9_noticesBehind_18 rfl 1 rfl ?_
  refine g_callV F (kX9_putBack l (M := (va_up (va_up M 714 (cpW (M 714) (M 710) 1804)) 710 (psR (upd (M 710) 71 y) k)))) (cwV 0 F.1.2.2.2.2 gX9_noticesBehind_X9_putBack rfl rfl rfl (by decide +kernel) ⟨Nat.le_of_ble_eq_true rfl, Nat.le_of_ble_eq_true rfl⟩) r709 (by decide) rfl rfl rfl rfl (Nat.le_of_ble_eq_true rfl) dX9_noticesBehind_19 ⟨Nat.le_of_ble_eq_true rfl, Nat.le_of_ble_eq_true rfl⟩ (g_det ?_)
  refine g_iload_n F dX9_noticesBehind_22 rfl 0 rfl ?_
  exact K _ _ _ _ dX9_noticesBehind_23 rfl ⟨rfl, by rw [bx_uu]; rfl⟩

abbrev rmX9_noticesIn : Room := { frames := 6, cells := 0, slots := 0, locals := 140 }
theorem iX9_noticesIn_9 : ∀ w ∈ u_ws RX9 TX9 15, w ∈ wsX9_noticesIn := by decide +kernel
set_option maxHeartbeats 200000 in
set_option maxRecDepth 100000 in
theorem kX9_noticesIn (l : Launch) {M : Mm} (hW : RW (M 710)) (x : Int32) : Ct l yX9_noticesIn wsX9_noticesIn rmX9_noticesIn (fun B => [.ref (B + 709), .int x]) M (fun _ v u => ¬ (1 ≤ x ∧ x ≤ 200) ∧ v = some (.int (0)) ∧ u = thM M 1 ∨ ∃ k, 1 ≤ k ∧ k ≤ 200 ∧ x = nI k ∧ v = some (.int (nbV (thM M 0) (M 710 71) k)) ∧ u = nbM (thM M 0) (M 710 71) k) := by
  refine Ct.ofI (own := RX9) (by decide +kernel) rfl rfl (fun B => Nat.le_of_ble_eq_true rfl) ?_
  intro pp ee ss mm aa bb me c9 DD ca B Tl AA QQ F K
  show G pp l ee rmX9_noticesIn ss mm aa bb me c9 QQ DD ca B Tl AA 2 0 0 M 0 [(0, .ref (B + 709)), (1, .int x)] []
  refine g_aload_n F dX9_noticesIn_0 rfl 0 rfl ?_
  refine g_iconst F (v := 0) dX9_noticesIn_1 (by decide) ?_
  refine gp9_thrown F iX9_noticesIn_9 r709 (by decide +kernel) dX9_noticesIn_2 ?_
  refine g_mem (show va_up M 709 (upd (M 709) 0 0) = thM M 0 from rfl) ?_
  refine g_iload_n F dX9_noticesIn_5 rfl 1 rfl ?_
  refine g_callS F (kX9_isPass l _) (va_cwS 1 F.1.2.2.2.2 gX9_noticesIn_X9_isPass rfl rfl rfl (by decide +kernel) ⟨Nat.le_of_ble_eq_true rfl, Nat.le_of_ble_eq_true rfl⟩) rfl rfl rfl (Nat.le_of_ble_eq_true rfl) dX9_noticesIn_6 ⟨Nat.le_of_ble_eq_true rfl, Nat.le_of_ble_eq_true rfl⟩ (g_det ?_)
  refine g_ifB_eq F 27 dX9_noticesIn_9 (by decide) (fun h1 => ?_) (fun h1 => ?_)
  · refine g_aload_n F dX9_noticesIn_27 rfl 0 rfl ?_
    refine g_iconst F (v := 1) dX9_noticesIn_28 (by decide) ?_
    refine g_callV F (kX9_fails l _) (cwV 1 F.1.2.2.2.2 gX9_noticesIn_X9_fails rfl rfl rfl (by decide +kernel) ⟨Nat.le_of_ble_eq_true rfl, Nat.le_of_ble_eq_true rfl⟩) r709 (by decide) rfl rfl rfl rfl (Nat.le_of_ble_eq_true rfl) dX9_noticesIn_29 ⟨Nat.le_of_ble_eq_true rfl, Nat.le_of_ble_eq_true rfl⟩ (g_det ?_)
    refine g_mem (thM_2 M 0 _) ?_
    exact K _ _ _ _ dX9_noticesIn_32 rfl (by first | exact Or.inl ⟨h1, rfl, rfl⟩ | exact Or.inr ⟨k, hk1, hk2, rfl, rfl, rfl⟩)
  · obtain ⟨k, hk1, hk2, rfl⟩ := of_rng (n := 200) (by decide) h1
    refine g_aload_n F dX9_noticesIn_12 rfl 0 rfl ?_
    refine g_iload_n F dX9_noticesIn_13 rfl 1 rfl ?_
    refine g_aload_n F dX9_noticesIn_14 rfl 0 rfl ?_
    refine gg9_state F iX9_noticesIn_9 r709 (by decide +kernel) dX9_noticesIn_15 ?_
    refine g_bipush F (v := 71) dX9_noticesIn_18 (by decide +kernel) ?_
    refine g_iaload (r := 710) F a710 (71) rfl (by omega) (by decide) dX9_noticesIn_20 ?_
    refine g_callV F (kX9_noticesBehind l (M := (thM M 0)) (k := k) (by omega) hW _) (cwV 2 F.1.2.2.2.2 gX9_noticesIn_X9_noticesBehind rfl rfl rfl (by decide +kernel) ⟨Nat.le_of_ble_eq_true rfl, Nat.le_of_ble_eq_true rfl⟩) r709 (by decide) rfl rfl rfl rfl (Nat.le_of_ble_eq_true rfl) dX9_noticesIn_21 ⟨Nat.le_of_ble_eq_true rfl, Nat.le_of_ble_eq_true rfl⟩ (g_det ?_)
    refine g_goto F 32 dX9_noticesIn_24 (by decide) ?_
    exact K _ _ _ _ dX9_noticesIn_32 rfl (by first | exact Or.inl ⟨h1, rfl, rfl⟩ | exact Or.inr ⟨k, hk1, hk2, rfl, rfl, rfl⟩)
