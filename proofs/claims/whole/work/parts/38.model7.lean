abbrev rmX9_readingsFrom : Room := { frames := 2, cells := 0, slots := 0, locals := 42 }
theorem iX9_readingsFrom_9 : ∀ w ∈ u_ws RX9 TX9 15, w ∈ wsX9_readingsFrom := by decide +kernel
set_option maxHeartbeats 200000 in
set_option maxRecDepth 100000 in
theorem kX9_readingsFrom (l : Launch) {M : Mm} (x y : Int32) : Ct l yX9_readingsFrom wsX9_readingsFrom rmX9_readingsFrom (fun B => [.ref (B + 709), .int x, .int y]) M (fun _ v u => ¬ (0 ≤ x ∧ x ≤ 7) ∧ v = some (.int (0)) ∧ u = thM M 1 ∨ (0 ≤ x ∧ x ≤ 7) ∧ ¬ (0 ≤ y ∧ y ≤ 5) ∧ v = some (.int (0)) ∧ u = thM M 2 ∨ ∃ c, c < 8 ∧ x = nI c ∧ (0 ≤ y ∧ y ≤ 5) ∧ v = some (.int (cntR (rgR (M 710) c) y 96)) ∧ u = thM M 0) := by
  refine Ct.ofI (own := RX9) (by decide +kernel) rfl rfl (fun B => Nat.le_of_ble_eq_true rfl) ?_
  intro pp ee ss mm aa bb me c9 DD ca B Tl AA QQ F K
  show G pp l ee rmX9_readingsFrom ss mm aa bb me c9 QQ DD ca B Tl AA 5 0 0 M 0 [(0, .ref (B + 709)), (1, .int x), (2, .int y)] []
  refine g_aload_n F dX9_readingsFrom_0 rfl 0 rfl ?_
  refine g_iconst F (v := 0) dX9_readingsFrom_1 (by decide) ?_
  refine gp9_thrown F iX9_readingsFrom_9 r709 (by decide +kernel) dX9_readingsFrom_2 ?_
  refine g_mem (show va_up M 709 (upd (M 709) 0 0) = thM M 0 from rfl) ?_
  refine g_iload_n F dX9_readingsFrom_5 rfl 1 rfl ?_
  refine g_callS F (kX9_isChimney l _) (va_cwS 1 F.1.2.2.2.2 gX9_readingsFrom_X9_isChimney rfl rfl rfl (by decide +kernel) ⟨Nat.le_of_ble_eq_true rfl, Nat.le_of_ble_eq_true rfl⟩) rfl rfl rfl (Nat.le_of_ble_eq_true rfl) dX9_readingsFrom_6 ⟨Nat.le_of_ble_eq_true rfl, Nat.le_of_ble_eq_true rfl⟩ (g_det ?_)
  refine g_ifB_ne F 18 dX9_readingsFrom_9 (by decide) (fun h1 => ?_) (fun h1 => ?_)
  · obtain ⟨c, hc_, rfl⟩ := ofk (n := 7) (by decide) h1
    have hc : c < 8 := by omega
    refine g_iload_n F dX9_readingsFrom_18 rfl 2 rfl ?_
    refine g_iconst F (v := 0) dX9_readingsFrom_19 (by decide) ?_
    refine g_iconst F (v := 5) dX9_readingsFrom_20 (by decide) ?_
    refine g_callS F (kX9_within l _ _ _) (va_cwS 3 F.1.2.2.2.2 gX9_readingsFrom_X9_within rfl rfl rfl (by decide +kernel) ⟨Nat.le_of_ble_eq_true rfl, Nat.le_of_ble_eq_true rfl⟩) rfl rfl rfl (Nat.le_of_ble_eq_true rfl) dX9_readingsFrom_21 ⟨Nat.le_of_ble_eq_true rfl, Nat.le_of_ble_eq_true rfl⟩ (g_det ?_)
    refine g_ifB_ne F 33 dX9_readingsFrom_24 (by decide) (fun h2 => ?_) (fun h2 => ?_)
    · refine g_iconst F (v := 0) dX9_readingsFrom_33 (by decide) ?_
      refine g_istore_n F (lv2 := [(3, _), (0, _), (1, _), (2, _)]) dX9_readingsFrom_34 rfl (by decide) rfl ?_
      refine g_iconst F (v := 0) dX9_readingsFrom_35 (by decide) ?_
      refine g_istore F (lv2 := [(4, _), (3, _), (0, _), (1, _), (2, _)]) dX9_readingsFrom_36 (by decide) rfl ?_
      have LP : ∀ (ni i : Nat), i + ni = 96 → G pp l ee rmX9_readingsFrom ss mm aa bb me c9 QQ DD ca B Tl AA 5 0 0 (thM M 0) 38 [(4, .int (nI i)), (0, .ref (B + 709)), (1, .int (nI c)), (2, .int y), (3, .int (cntR (rgR (M 710) c) y i))] [] := by
        intro ni
        induction ni with
        | zero =>
          intro i hni
          refine g_iload F dX9_readingsFrom_38 0 rfl ?_
          refine g_bipush F (v := 96) dX9_readingsFrom_40 (by decide +kernel) ?_
          refine g_icmpN_ge F 70 dX9_readingsFrom_42 (by decide) (i) (96) rfl rfl (by omega) (by omega) (fun hci => ?_) (fun hci => ?_)
          · obtain rfl : i = 96 := by omega
            refine g_iload_n F dX9_readingsFrom_70 rfl 4 rfl ?_
            exact K _ _ _ _ dX9_readingsFrom_71 rfl (Or.inr (Or.inr ⟨c, hc, rfl, h2, rfl, rfl⟩))
          · exact absurd hci (by omega)
        | succ ni ihi =>
          intro i hni
          refine g_iload F dX9_readingsFrom_38 0 rfl ?_
          refine g_bipush F (v := 96) dX9_readingsFrom_40 (by decide +kernel) ?_
          refine g_icmpN_ge F 70 dX9_readingsFrom_42 (by decide) (i) (96) rfl rfl (by omega) (by omega) (fun hci => ?_) (fun hci => ?_)
          · exact absurd hci (by omega)
          · refine g_iload_n F dX9_readingsFrom_45 rfl 4 rfl ?_
            refine g_aload_n F dX9_readingsFrom_46 rfl 1 rfl ?_
            refine g_iload_n F dX9_readingsFrom_47 rfl 2 rfl ?_
            refine g_iload F dX9_readingsFrom_48 0 rfl ?_
            refine g_callV F (kX9_readingIn l (M := (thM M 0)) (c := c) (t := i) (by omega) (by omega)) (cwV 2 F.1.2.2.2.2 gX9_readingsFrom_X9_readingIn rfl rfl rfl (by decide +kernel) ⟨Nat.le_of_ble_eq_true rfl, Nat.le_of_ble_eq_true rfl⟩) r709 (by decide) rfl rfl rfl rfl (Nat.le_of_ble_eq_true rfl) dX9_readingsFrom_50 ⟨Nat.le_of_ble_eq_true rfl, Nat.le_of_ble_eq_true rfl⟩ (g_det ?_)
            refine g_top (show _ = rgR (M 710) c i from rfl) ?_
            refine g_iload_n F dX9_readingsFrom_53 rfl 3 rfl ?_
            refine g_icmp_lt F 61 dX9_readingsFrom_54 (by decide) (fun h3 => ?_) (fun h3 => ?_)
            · refine g_iconst F (v := 0) dX9_readingsFrom_61 (by decide) ?_
              refine g_iadd F dX9_readingsFrom_62 ?_
              refine g_istore_n F (lv2 := [(3, _), (4, _), (0, _), (1, _), (2, _)]) dX9_readingsFrom_63 rfl (by decide) rfl ?_
              refine g_iinc F (lv2 := [(4, _), (3, _), (0, _), (1, _), (2, _)]) dX9_readingsFrom_64 1 rfl (nI_1 _) (by decide) rfl ?_
              refine g_goto F 38 dX9_readingsFrom_67 (by decide) ?_
              refine g_lv (lv2 := [(4, _), (0, _), (1, _), (2, _), (3, _)]) [0, 2, 3, 4, 1] rfl ?_
              exact g_is rfl (by rw [cntR]; first | (rw [if_pos h3]; first | done | rfl) | (rw [if_neg h3]; first | done | rfl)) (ihi (i + 1) (by omega))
            · refine g_iconst F (v := 1) dX9_readingsFrom_57 (by decide) ?_
              refine g_goto F 62 dX9_readingsFrom_58 (by decide) ?_
              refine g_iadd F dX9_readingsFrom_62 ?_
              refine g_istore_n F (lv2 := [(3, _), (4, _), (0, _), (1, _), (2, _)]) dX9_readingsFrom_63 rfl (by decide) rfl ?_
              refine g_iinc F (lv2 := [(4, _), (3, _), (0, _), (1, _), (2, _)]) dX9_readingsFrom_64 1 rfl (nI_1 _) (by decide) rfl ?_
              refine g_goto F 38 dX9_readingsFrom_67 (by decide) ?_
              refine g_lv (lv2 := [(4, _), (0, _), (1, _), (2, _), (3, _)]) [0, 2, 3, 4, 1] rfl ?_
              exact g_is rfl (by rw [cntR]; first | (rw [if_pos h3]; first | done | rfl) | (rw [if_neg h3]; first | done | rfl)) (ihi (i + 1) (by omega))
      refine g_lv (lv2 := [(4, _), (0, _), (1, _), (2, _), (3, _)]) [0, 2, 3, 4, 1] rfl ?_
      exact g_is rfl rfl (LP (96 - 0) (0) (by omega))
    · refine g_aload_n F dX9_readingsFrom_27 rfl 0 rfl ?_
      refine g_iconst F (v := 2) dX9_readingsFrom_28 (by decide) ?_
      refine g_callV F (kX9_fails l _) (cwV 1 F.1.2.2.2.2 gX9_readingsFrom_X9_fails rfl rfl rfl (by decide +kernel) ⟨Nat.le_of_ble_eq_true rfl, Nat.le_of_ble_eq_true rfl⟩) r709 (by decide) rfl rfl rfl rfl (Nat.le_of_ble_eq_true rfl) dX9_readingsFrom_29 ⟨Nat.le_of_ble_eq_true rfl, Nat.le_of_ble_eq_true rfl⟩ (g_det ?_)
      refine g_mem (thM_2 M 0 _) ?_
      exact K _ _ _ _ dX9_readingsFrom_32 rfl (Or.inr (Or.inl ⟨in_k hc_ (by decide), h2, rfl, rfl⟩))
  · refine g_aload_n F dX9_readingsFrom_12 rfl 0 rfl ?_
    refine g_iconst F (v := 1) dX9_readingsFrom_13 (by decide) ?_
    refine g_callV F (kX9_fails l _) (cwV 1 F.1.2.2.2.2 gX9_readingsFrom_X9_fails rfl rfl rfl (by decide +kernel) ⟨Nat.le_of_ble_eq_true rfl, Nat.le_of_ble_eq_true rfl⟩) r709 (by decide) rfl rfl rfl rfl (Nat.le_of_ble_eq_true rfl) dX9_readingsFrom_14 ⟨Nat.le_of_ble_eq_true rfl, Nat.le_of_ble_eq_true rfl⟩ (g_det ?_)
    refine g_mem (thM_2 M 0 _) ?_
    exact K _ _ _ _ dX9_readingsFrom_17 rfl (Or.inl ⟨h1, rfl, rfl⟩)

abbrev rmX9_longestRow : Room := { frames := 2, cells := 0, slots := 0, locals := 46 }
theorem iX9_longestRow_9 : ∀ w ∈ u_ws RX9 TX9 15, w ∈ wsX9_longestRow := by decide +kernel
set_option maxHeartbeats 200000 in
set_option maxRecDepth 100000 in
theorem kX9_longestRow (l : Launch) {M : Mm} (x y z : Int32) : Ct l yX9_longestRow wsX9_longestRow rmX9_longestRow (fun B => [.ref (B + 709), .int x, .int y, .int z]) M (fun _ v u => ¬ (0 ≤ x ∧ x ≤ 7) ∧ v = some (.int (0)) ∧ u = thM M 1 ∨ (0 ≤ x ∧ x ≤ 7) ∧ ¬ (0 ≤ y ∧ y ≤ 5) ∧ v = some (.int (0)) ∧ u = thM M 2 ∨ ∃ c, c < 8 ∧ x = nI c ∧ (0 ≤ y ∧ y ≤ 5) ∧ v = some (.int (lonR (rgR (M 710) c) y 96)) ∧ u = thM M 0) := by
  refine Ct.ofI (own := RX9) (by decide +kernel) rfl rfl (fun B => Nat.le_of_ble_eq_true rfl) ?_
  intro pp ee ss mm aa bb me c9 DD ca B Tl AA QQ F K
  show G pp l ee rmX9_longestRow ss mm aa bb me c9 QQ DD ca B Tl AA 7 0 0 M 0 [(0, .ref (B + 709)), (1, .int x), (2, .int y), (3, .int z)] []
  refine g_aload_n F dX9_longestRow_0 rfl 0 rfl ?_
  refine g_iconst F (v := 0) dX9_longestRow_1 (by decide) ?_
  refine gp9_thrown F iX9_longestRow_9 r709 (by decide +kernel) dX9_longestRow_2 ?_
  refine g_mem (show va_up M 709 (upd (M 709) 0 0) = thM M 0 from rfl) ?_
  refine g_iload_n F dX9_longestRow_5 rfl 1 rfl ?_
  refine g_callS F (kX9_isChimney l _) (va_cwS 1 F.1.2.2.2.2 gX9_longestRow_X9_isChimney rfl rfl rfl (by decide +kernel) ⟨Nat.le_of_ble_eq_true rfl, Nat.le_of_ble_eq_true rfl⟩) rfl rfl rfl (Nat.le_of_ble_eq_true rfl) dX9_longestRow_6 ⟨Nat.le_of_ble_eq_true rfl, Nat.le_of_ble_eq_true rfl⟩ (g_det ?_)
  refine g_ifB_ne F 18 dX9_longestRow_9 (by decide) (fun h1 => ?_) (fun h1 => ?_)
  · obtain ⟨c, hc_, rfl⟩ := ofk (n := 7) (by decide) h1
    have hc : c < 8 := by omega
    refine g_iload_n F dX9_longestRow_18 rfl 2 rfl ?_
    refine g_iconst F (v := 0) dX9_longestRow_19 (by decide) ?_
    refine g_iconst F (v := 5) dX9_longestRow_20 (by decide) ?_
    refine g_callS F (kX9_within l _ _ _) (va_cwS 3 F.1.2.2.2.2 gX9_longestRow_X9_within rfl rfl rfl (by decide +kernel) ⟨Nat.le_of_ble_eq_true rfl, Nat.le_of_ble_eq_true rfl⟩) rfl rfl rfl (Nat.le_of_ble_eq_true rfl) dX9_longestRow_21 ⟨Nat.le_of_ble_eq_true rfl, Nat.le_of_ble_eq_true rfl⟩ (g_det ?_)
    refine g_ifB_ne F 33 dX9_longestRow_24 (by decide) (fun h2 => ?_) (fun h2 => ?_)
    · refine g_iconst F (v := 0) dX9_longestRow_33 (by decide) ?_
      refine g_istore F (lv2 := [(4, _), (0, _), (1, _), (2, _), (3, _)]) dX9_longestRow_34 (by decide) rfl ?_
      refine g_iconst F (v := 0) dX9_longestRow_36 (by decide) ?_
      refine g_istore F (lv2 := [(5, _), (4, _), (0, _), (1, _), (2, _), (3, _)]) dX9_longestRow_37 (by decide) rfl ?_
      have LP : ∀ (ni i : Nat), i + ni = 96 → G pp l ee rmX9_longestRow ss mm aa bb me c9 QQ DD ca B Tl AA 7 0 0 (thM M 0) 39 [(5, .int (nI i)), (0, .ref (B + 709)), (1, .int (nI c)), (2, .int y), (3, .int z), (4, .int (lonR (rgR (M 710) c) y i))] [] := by
        intro ni
        induction ni with
        | zero =>
          intro i hni
          refine g_iload F dX9_longestRow_39 0 rfl ?_
          refine g_bipush F (v := 96) dX9_longestRow_41 (by decide +kernel) ?_
          refine g_icmpN_ge F 78 dX9_longestRow_43 (by decide) (i) (96) rfl rfl (by omega) (by omega) (fun hci => ?_) (fun hci => ?_)
          · obtain rfl : i = 96 := by omega
            refine g_iload F dX9_longestRow_78 5 rfl ?_
            exact K _ _ _ _ dX9_longestRow_80 rfl (Or.inr (Or.inr ⟨c, hc, rfl, h2, rfl, rfl⟩))
          · exact absurd hci (by omega)
        | succ ni ihi =>
          intro i hni
          refine g_iload F dX9_longestRow_39 0 rfl ?_
          refine g_bipush F (v := 96) dX9_longestRow_41 (by decide +kernel) ?_
          refine g_icmpN_ge F 78 dX9_longestRow_43 (by decide) (i) (96) rfl rfl (by omega) (by omega) (fun hci => ?_) (fun hci => ?_)
          · exact absurd hci (by omega)
          · refine g_aload_n F dX9_longestRow_46 rfl 1 rfl ?_
            refine g_iload_n F dX9_longestRow_47 rfl 2 rfl ?_
            refine g_iload F dX9_longestRow_48 0 rfl ?_
            refine g_iload_n F dX9_longestRow_50 rfl 3 rfl ?_
            refine g_callV F (kX9_rowUpTo l (M := (thM M 0)) (c := c) (t := i) (by omega) (by omega) _) (cwV 3 F.1.2.2.2.2 gX9_longestRow_X9_rowUpTo rfl rfl rfl (by decide +kernel) ⟨Nat.le_of_ble_eq_true rfl, Nat.le_of_ble_eq_true rfl⟩) r709 (by decide) rfl rfl rfl rfl (Nat.le_of_ble_eq_true rfl) dX9_longestRow_51 ⟨Nat.le_of_ble_eq_true rfl, Nat.le_of_ble_eq_true rfl⟩ (g_det ?_)
            refine g_top (show _ = nI (upR (rgR (M 710) c) y (i + 1)) from rfl) ?_
            refine g_istore F (lv2 := [(6, _), (5, _), (0, _), (1, _), (2, _), (3, _), (4, _)]) dX9_longestRow_54 (by decide) rfl ?_
            refine g_iload F dX9_longestRow_56 0 rfl ?_
            refine g_iload F dX9_longestRow_58 6 rfl ?_
            refine g_icmp_le F 68 dX9_longestRow_60 (by decide) (fun h3 => ?_) (fun h3 => ?_)
            · refine g_iload F dX9_longestRow_68 6 rfl ?_
              refine g_istore F (lv2 := [(4, _), (6, _), (5, _), (0, _), (1, _), (2, _), (3, _)]) dX9_longestRow_70 (by decide) rfl ?_
              refine g_iinc F (lv2 := [(5, _), (4, _), (6, _), (0, _), (1, _), (2, _), (3, _)]) dX9_longestRow_72 2 rfl (nI_1 _) (by decide) rfl ?_
              refine g_goto F 39 dX9_longestRow_75 (by decide) ?_
              refine g_lv (lv2 := [(5, _), (0, _), (1, _), (2, _), (3, _), (4, _)]) [0, 3, 4, 5, 6, 1] rfl ?_
              exact g_is rfl (by rw [lonR]; first | (rw [if_neg (Int32.not_lt.mpr h3)]; first | done | rfl) | (rw [if_pos (Int32.not_le.mp h3)]; first | done | rfl)) (ihi (i + 1) (by omega))
            · refine g_iload F dX9_longestRow_63 0 rfl ?_
              refine g_goto F 70 dX9_longestRow_65 (by decide) ?_
              refine g_istore F (lv2 := [(4, _), (6, _), (5, _), (0, _), (1, _), (2, _), (3, _)]) dX9_longestRow_70 (by decide) rfl ?_
              refine g_iinc F (lv2 := [(5, _), (4, _), (6, _), (0, _), (1, _), (2, _), (3, _)]) dX9_longestRow_72 2 rfl (nI_1 _) (by decide) rfl ?_
              refine g_goto F 39 dX9_longestRow_75 (by decide) ?_
              refine g_lv (lv2 := [(5, _), (0, _), (1, _), (2, _), (3, _), (4, _)]) [0, 3, 4, 5, 6, 1] rfl ?_
              exact g_is rfl (by rw [lonR]; first | (rw [if_neg (Int32.not_lt.mpr h3)]; first | done | rfl) | (rw [if_pos (Int32.not_le.mp h3)]; first | done | rfl)) (ihi (i + 1) (by omega))
      refine g_lv (lv2 := [(5, _), (0, _), (1, _), (2, _), (3, _), (4, _)]) [0, 2, 3, 4, 5, 1] rfl ?_
      exact g_is rfl rfl (LP (96 - 0) (0) (by omega))
    · refine g_aload_n F dX9_longestRow_27 rfl 0 rfl ?_
      refine g_iconst F (v := 2) dX9_longestRow_28 (by decide) ?_
      refine g_callV F (kX9_fails l _) (cwV 1 F.1.2.2.2.2 gX9_longestRow_X9_fails rfl rfl rfl (by decide +kernel) ⟨Nat.le_of_ble_eq_true rfl, Nat.le_of_ble_eq_true rfl⟩) r709 (by decide) rfl rfl rfl rfl (Nat.le_of_ble_eq_true rfl) dX9_longestRow_29 ⟨Nat.le_of_ble_eq_true rfl, Nat.le_of_ble_eq_true rfl⟩ (g_det ?_)
      refine g_mem (thM_2 M 0 _) ?_
      exact K _ _ _ _ dX9_longestRow_32 rfl (Or.inr (Or.inl ⟨in_k hc_ (by decide), h2, rfl, rfl⟩))
  · refine g_aload_n F dX9_longestRow_12 rfl 0 rfl ?_
    refine g_iconst F (v := 1) dX9_longestRow_13 (by decide) ?_
    refine g_callV F (kX9_fails l _) (cwV 1 F.1.2.2.2.2 gX9_longestRow_X9_fails rfl rfl rfl (by decide +kernel) ⟨Nat.le_of_ble_eq_true rfl, Nat.le_of_ble_eq_true rfl⟩) r709 (by decide) rfl rfl rfl rfl (Nat.le_of_ble_eq_true rfl) dX9_longestRow_14 ⟨Nat.le_of_ble_eq_true rfl, Nat.le_of_ble_eq_true rfl⟩ (g_det ?_)
    refine g_mem (thM_2 M 0 _) ?_
    exact K _ _ _ _ dX9_longestRow_17 rfl (Or.inl ⟨h1, rfl, rfl⟩)

abbrev rmX9_smokes : Room := { frames := 1, cells := 0, slots := 0, locals := 24 }
set_option maxHeartbeats 200000 in
set_option maxRecDepth 100000 in
theorem kX9_smokes (l : Launch) {M : Mm} {c : Nat} (hc : c < 8) (hne : ¬ M 710 (16 + c) = 0) (i0 b1 : Nat) (hab : i0 ≤ b1) (hb : b1 < 1000) (y : Int32) (hy : ∀ i : Nat, i < 1001 → (y < nI i ↔ b1 ≤ i)) : Ct l yX9_smokes wsX9_smokes rmX9_smokes (fun B => [.ref (B + 709), .int (nI c), .int (nI i0), .int y]) M (fun _ v u => v = some (.int (sumF (fun t => shR (M 710) c (nI t)) i0 (b1 - i0))) ∧ u = M) := by
  refine Ct.ofI (own := RX9) (by decide +kernel) rfl rfl (fun B => Nat.le_of_ble_eq_true rfl) ?_
  intro pp ee ss mm aa bb me c9 DD ca B Tl AA QQ F K
  show G pp l ee rmX9_smokes ss mm aa bb me c9 QQ DD ca B Tl AA 6 0 0 M 0 [(0, .ref (B + 709)), (1, .int (nI c)), (2, .int (nI i0)), (3, .int y)] []
  refine g_iconst F (v := 0) dX9_smokes_0 (by decide) ?_
  refine g_istore F (lv2 := [(4, _), (0, _), (1, _), (2, _), (3, _)]) dX9_smokes_1 (by decide) rfl ?_
  refine g_iload_n F dX9_smokes_3 rfl 3 rfl ?_
  refine g_istore F (lv2 := [(5, _), (4, _), (0, _), (1, _), (2, _), (3, _)]) dX9_smokes_4 (by decide) rfl ?_
  have LP : ∀ (ni i : Nat), i + ni = b1 → i0 ≤ i → G pp l ee rmX9_smokes ss mm aa bb me c9 QQ DD ca B Tl AA 6 0 0 (M) 6 [(5, .int (nI i)), (0, .ref (B + 709)), (1, .int (nI c)), (2, .int (nI i0)), (3, .int y), (4, .int (sumF (fun t => shR (M 710) c (nI t)) i0 (i - i0)))] [] := by
    intro ni
    induction ni with
    | zero =>
      intro i hni hyi
      refine g_iload F dX9_smokes_6 0 rfl ?_
      refine g_iload_n F dX9_smokes_8 rfl 4 rfl ?_
      refine g_icmp_gt F 30 dX9_smokes_9 (by decide) (fun h1 => ?_) (fun h1 => ?_)
      · obtain rfl : i = b1 := by have := (hy i (by omega)).mp h1; omega
        refine g_iload F dX9_smokes_30 5 rfl ?_
        exact K _ _ _ _ dX9_smokes_32 rfl ⟨rfl, rfl⟩
      · exact absurd ((hy i (by omega)).mpr (by omega)) h1
    | succ ni ihi =>
      intro i hni hyi
      refine g_iload F dX9_smokes_6 0 rfl ?_
      refine g_iload_n F dX9_smokes_8 rfl 4 rfl ?_
      refine g_icmp_gt F 30 dX9_smokes_9 (by decide) (fun h1 => ?_) (fun h1 => ?_)
      · exact absurd ((hy i (by omega)).mp h1) (by omega)
      · refine g_iload F dX9_smokes_12 5 rfl ?_
        refine g_aload_n F dX9_smokes_14 rfl 1 rfl ?_
        refine g_iload_n F dX9_smokes_15 rfl 2 rfl ?_
        refine g_iload F dX9_smokes_16 0 rfl ?_
        refine g_callV F (kX9_shade l (c := c) (by omega) hne _) (cwV 2 F.1.2.2.2.2 gX9_smokes_X9_shade rfl rfl rfl (by decide +kernel) ⟨Nat.le_of_ble_eq_true rfl, Nat.le_of_ble_eq_true rfl⟩) r709 (by decide) rfl rfl rfl rfl (Nat.le_of_ble_eq_true rfl) dX9_smokes_18 ⟨Nat.le_of_ble_eq_true rfl, Nat.le_of_ble_eq_true rfl⟩ (g_det ?_)
        refine g_iadd F dX9_smokes_21 ?_
        refine g_istore F (lv2 := [(4, _), (5, _), (0, _), (1, _), (2, _), (3, _)]) dX9_smokes_22 (by decide) rfl ?_
        refine g_iinc F (lv2 := [(5, _), (4, _), (0, _), (1, _), (2, _), (3, _)]) dX9_smokes_24 1 rfl (nI_1 _) (by decide) rfl ?_
        refine g_goto F 6 dX9_smokes_27 (by decide) ?_
        refine g_lv (lv2 := [(5, _), (0, _), (1, _), (2, _), (3, _), (4, _)]) [0, 2, 3, 4, 5, 1] rfl ?_
        exact g_is rfl (by rw [show i + 1 - i0 = (i - i0) + 1 by omega]; simp only [sumF]; rw [show i0 + (i - i0) = i by omega]) (ihi (i + 1) (by omega) (by omega))
  refine g_lv (lv2 := [(5, _), (0, _), (1, _), (2, _), (3, _), (4, _)]) [0, 2, 3, 4, 5, 1] rfl ?_
  exact g_is rfl (by rw [Nat.sub_self]; rfl) (LP (b1 - i0) (i0) (by omega) (Nat.le_refl _))

abbrev rmX9_smoke : Room := { frames := 2, cells := 0, slots := 0, locals := 49 }
theorem iX9_smoke_9 : ∀ w ∈ u_ws RX9 TX9 15, w ∈ wsX9_smoke := by decide +kernel
set_option maxHeartbeats 200000 in
set_option maxRecDepth 100000 in
theorem kX9_smoke (l : Launch) {M : Mm} (hne : ∀ c, c < 8 → ¬ M 710 (16 + c) = 0) (x y z w : Int32) : Ct l yX9_smoke wsX9_smoke rmX9_smoke (fun B => [.ref (B + 709), .int x, .int y, .int z, .int w]) M (fun _ v u => ¬ (0 ≤ x ∧ x ≤ 7) ∧ v = some (.int (0)) ∧ u = thM M 1 ∨ (0 ≤ x ∧ x ≤ 7) ∧ ¬ ((0 ≤ y ∧ y ≤ 95) ∧ (y ≤ z ∧ z ≤ 95)) ∧ v = some (.int (0)) ∧ u = thM M 2 ∨ ∃ c a b, c < 8 ∧ x = nI c ∧ a ≤ b ∧ b ≤ 95 ∧ y = nI a ∧ z = nI b ∧ v = some (.int (sumF (fun t => shR (M 710) c (nI t)) a (b + 1 - a))) ∧ u = thM M 0) := by
  refine Ct.ofI (own := RX9) (by decide +kernel) rfl rfl (fun B => Nat.le_of_ble_eq_true rfl) ?_
  intro pp ee ss mm aa bb me c9 DD ca B Tl AA QQ F K
  show G pp l ee rmX9_smoke ss mm aa bb me c9 QQ DD ca B Tl AA 5 0 0 M 0 [(0, .ref (B + 709)), (1, .int x), (2, .int y), (3, .int z), (4, .int w)] []
  refine g_aload_n F dX9_smoke_0 rfl 0 rfl ?_
  refine g_iconst F (v := 0) dX9_smoke_1 (by decide) ?_
  refine gp9_thrown F iX9_smoke_9 r709 (by decide +kernel) dX9_smoke_2 ?_
  refine g_mem (show va_up M 709 (upd (M 709) 0 0) = thM M 0 from rfl) ?_
  refine g_iload_n F dX9_smoke_5 rfl 1 rfl ?_
  refine g_callS F (kX9_isChimney l _) (va_cwS 1 F.1.2.2.2.2 gX9_smoke_X9_isChimney rfl rfl rfl (by decide +kernel) ⟨Nat.le_of_ble_eq_true rfl, Nat.le_of_ble_eq_true rfl⟩) rfl rfl rfl (Nat.le_of_ble_eq_true rfl) dX9_smoke_6 ⟨Nat.le_of_ble_eq_true rfl, Nat.le_of_ble_eq_true rfl⟩ (g_det ?_)
  refine g_ifB_ne F 18 dX9_smoke_9 (by decide) (fun h1 => ?_) (fun h1 => ?_)
  · obtain ⟨c, hc_, rfl⟩ := ofk (n := 7) (by decide) h1
    have hc : c < 8 := by omega
    refine g_iload_n F dX9_smoke_18 rfl 2 rfl ?_
    refine g_callS F (kX9_isTick l _) (va_cwS 1 F.1.2.2.2.2 gX9_smoke_X9_isTick rfl rfl rfl (by decide +kernel) ⟨Nat.le_of_ble_eq_true rfl, Nat.le_of_ble_eq_true rfl⟩) rfl rfl rfl (Nat.le_of_ble_eq_true rfl) dX9_smoke_19 ⟨Nat.le_of_ble_eq_true rfl, Nat.le_of_ble_eq_true rfl⟩ (g_det ?_)
    refine g_ifB_eq F 45 dX9_smoke_22 (by decide) (fun h2 => ?_) (fun h2 => ?_)
    · refine g_aload_n F dX9_smoke_45 rfl 0 rfl ?_
      refine g_iconst F (v := 2) dX9_smoke_46 (by decide) ?_
      refine g_callV F (kX9_fails l _) (cwV 1 F.1.2.2.2.2 gX9_smoke_X9_fails rfl rfl rfl (by decide +kernel) ⟨Nat.le_of_ble_eq_true rfl, Nat.le_of_ble_eq_true rfl⟩) r709 (by decide) rfl rfl rfl rfl (Nat.le_of_ble_eq_true rfl) dX9_smoke_47 ⟨Nat.le_of_ble_eq_true rfl, Nat.le_of_ble_eq_true rfl⟩ (g_det ?_)
      refine g_mem (thM_2 M 0 _) ?_
      exact K _ _ _ _ dX9_smoke_50 rfl (by first | exact Or.inl ⟨h1, rfl, rfl⟩ | exact Or.inr (Or.inl ⟨in_k hc_ (by decide), fun q => h2 q.1, rfl, rfl⟩) | exact Or.inr (Or.inl ⟨in_k hc_ (by decide), fun q => h3 q.2, rfl, rfl⟩) | exact Or.inr (Or.inr ⟨c, a, b, hc, rfl, hab, hb_, rfl, rfl, rfl, rfl⟩))
    · obtain ⟨a, ha_, rfl⟩ := ofk (n := 95) (by decide) h2
      have ha : a < 96 := by omega
      refine g_iload_n F dX9_smoke_25 rfl 3 rfl ?_
      refine g_iload_n F dX9_smoke_26 rfl 2 rfl ?_
      refine g_bipush F (v := 95) dX9_smoke_27 (by decide +kernel) ?_
      refine g_callS F (kX9_within l _ _ _) (va_cwS 3 F.1.2.2.2.2 gX9_smoke_X9_within rfl rfl rfl (by decide +kernel) ⟨Nat.le_of_ble_eq_true rfl, Nat.le_of_ble_eq_true rfl⟩) rfl rfl rfl (Nat.le_of_ble_eq_true rfl) dX9_smoke_29 ⟨Nat.le_of_ble_eq_true rfl, Nat.le_of_ble_eq_true rfl⟩ (g_det ?_)
      refine g_ifB_eq F 45 dX9_smoke_32 (by decide) (fun h3 => ?_) (fun h3 => ?_)
      · refine g_aload_n F dX9_smoke_45 rfl 0 rfl ?_
        refine g_iconst F (v := 2) dX9_smoke_46 (by decide) ?_
        refine g_callV F (kX9_fails l _) (cwV 1 F.1.2.2.2.2 gX9_smoke_X9_fails rfl rfl rfl (by decide +kernel) ⟨Nat.le_of_ble_eq_true rfl, Nat.le_of_ble_eq_true rfl⟩) r709 (by decide) rfl rfl rfl rfl (Nat.le_of_ble_eq_true rfl) dX9_smoke_47 ⟨Nat.le_of_ble_eq_true rfl, Nat.le_of_ble_eq_true rfl⟩ (g_det ?_)
        refine g_mem (thM_2 M 0 _) ?_
        exact K _ _ _ _ dX9_smoke_50 rfl (by first | exact Or.inl ⟨h1, rfl, rfl⟩ | exact Or.inr (Or.inl ⟨in_k hc_ (by decide), fun q => h2 q.1, rfl, rfl⟩) | exact Or.inr (Or.inl ⟨in_k hc_ (by decide), fun q => h3 q.2, rfl, rfl⟩) | exact Or.inr (Or.inr ⟨c, a, b, hc, rfl, hab, hb_, rfl, rfl, rfl, rfl⟩))
      · obtain ⟨b, hb_, rfl⟩ := ofk (n := 95) (by decide) ⟨Int32.le_trans (nI_pos' (by omega)) h3.1, h3.2⟩
        have hab : a ≤ b := (nI_leI (by omega) (by omega)).mp h3.1
        refine g_aload_n F dX9_smoke_35 rfl 0 rfl ?_
        refine g_iload_n F dX9_smoke_36 rfl 1 rfl ?_
        refine g_iload_n F dX9_smoke_37 rfl 2 rfl ?_
        refine g_iload_n F dX9_smoke_38 rfl 3 rfl ?_
        refine g_callV F (kX9_smokes l (M := (thM M 0)) (c := c) hc (hne c hc) (a) (b + 1) (by omega) (by omega) (nI (b)) (fun i hi => lt_iff (by omega) hi)) (cwV 3 F.1.2.2.2.2 gX9_smoke_X9_smokes rfl rfl rfl (by decide +kernel) ⟨Nat.le_of_ble_eq_true rfl, Nat.le_of_ble_eq_true rfl⟩) r709 (by decide) rfl rfl rfl rfl (Nat.le_of_ble_eq_true rfl) dX9_smoke_39 ⟨Nat.le_of_ble_eq_true rfl, Nat.le_of_ble_eq_true rfl⟩ (g_det ?_)
        refine g_goto F 50 dX9_smoke_42 (by decide) ?_
        exact K _ _ _ _ dX9_smoke_50 rfl (by first | exact Or.inl ⟨h1, rfl, rfl⟩ | exact Or.inr (Or.inl ⟨in_k hc_ (by decide), fun q => h2 q.1, rfl, rfl⟩) | exact Or.inr (Or.inl ⟨in_k hc_ (by decide), fun q => h3 q.2, rfl, rfl⟩) | exact Or.inr (Or.inr ⟨c, a, b, hc, rfl, hab, hb_, rfl, rfl, rfl, rfl⟩))
  · refine g_aload_n F dX9_smoke_12 rfl 0 rfl ?_
    refine g_iconst F (v := 1) dX9_smoke_13 (by decide) ?_
    refine g_callV F (kX9_fails l _) (cwV 1 F.1.2.2.2.2 gX9_smoke_X9_fails rfl rfl rfl (by decide +kernel) ⟨Nat.le_of_ble_eq_true rfl, Nat.le_of_ble_eq_true rfl⟩) r709 (by decide) rfl rfl rfl rfl (Nat.le_of_ble_eq_true rfl) dX9_smoke_14 ⟨Nat.le_of_ble_eq_true rfl, Nat.le_of_ble_eq_true rfl⟩ (g_det ?_)
    refine g_mem (thM_2 M 0 _) ?_
    exact K _ _ _ _ dX9_smoke_17 rfl (by first | exact Or.inl ⟨h1, rfl, rfl⟩ | exact Or.inr (Or.inl ⟨in_k hc_ (by decide), fun q => h2 q.1, rfl, rfl⟩) | exact Or.inr (Or.inl ⟨in_k hc_ (by decide), fun q => h3 q.2, rfl, rfl⟩) | exact Or.inr (Or.inr ⟨c, a, b, hc, rfl, hab, hb_, rfl, rfl, rfl, rfl⟩))
