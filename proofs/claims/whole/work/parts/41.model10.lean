/-- the first of the greatest among the first i -/
def pbR (f : Nat → Int32) : Nat → Nat
  | 0 => 0
  | i + 1 => if i = 0 then 0 else if f (pbR f i) < f i then i else pbR f i
theorem pbR_le (f : Nat → Int32) : ∀ i, pbR f i ≤ i
  | 0 => Nat.le_refl _
  | i + 1 => by
    have h := pbR_le f i
    unfold pbR
    split
    · omega
    · split <;> omega
theorem pbR_lt (f : Nat → Int32) {i : Nat} (h1 : 1 ≤ i) : pbR f i < i := by
  obtain ⟨j, rfl⟩ : ∃ j, i = j + 1 := ⟨i - 1, by omega⟩
  have h := pbR_le f j
  unfold pbR
  split
  · omega
  · split <;> omega
def ptR (f : Nat → Int32) : Nat → Int32 × (Nat → Int32)
  | 0 => (0, f)
  | i + 1 => ((ptR f i).1 ||| ((1 : Int32) <<< (nI (pbR (ptR f i).2 8) &&& 31)), upd (ptR f i).2 (pbR (ptR f i).2 8) (-1))
def twR (M : Mm) (t b : Nat) : Nat → Nat → Int32
  | 0 => M 716
  | i + 1 => upd (twR M t b i) i (sumF (fun j => shR (M 710) i (nI j)) t (b + 1 - t))

abbrev rmX9_pickOne : Room := { frames := 0, cells := 0, slots := 0, locals := 0 }
theorem iX9_pickOne_9 : ∀ w ∈ u_ws RX9 TX9 15, w ∈ wsX9_pickOne := by decide +kernel
set_option maxHeartbeats 200000 in
set_option maxRecDepth 100000 in
theorem kX9_pickOne (l : Launch) {M : Mm}  : Ct l yX9_pickOne wsX9_pickOne rmX9_pickOne (fun B => [.ref (B + 709)]) M (fun _ v u => v = some (.int (nI (pbR (M 716) 8))) ∧ u = va_up M 716 (upd (M 716) (pbR (M 716) 8) (-1))) := by
  refine Ct.ofI (own := RX9) (by decide +kernel) rfl rfl (fun B => Nat.le_of_ble_eq_true rfl) ?_
  intro pp ee ss mm aa bb me c9 DD ca B Tl AA QQ F K
  show G pp l ee rmX9_pickOne ss mm aa bb me c9 QQ DD ca B Tl AA 3 0 0 M 0 [(0, .ref (B + 709))] []
  refine g_iconst F (v := 0) dX9_pickOne_0 (by decide) ?_
  refine g_istore_n F (lv2 := [(1, _), (0, _)]) dX9_pickOne_1 rfl (by decide) rfl ?_
  refine g_iconst F (v := 1) dX9_pickOne_2 (by decide) ?_
  refine g_istore_n F (lv2 := [(2, _), (1, _), (0, _)]) dX9_pickOne_3 rfl (by decide) rfl ?_
  have LP : ∀ (ni i : Nat), i + ni = 8 → 1 ≤ i → G pp l ee rmX9_pickOne ss mm aa bb me c9 QQ DD ca B Tl AA 3 0 0 (M) 4 [(2, .int (nI i)), (0, .ref (B + 709)), (1, .int (nI (pbR (M 716) i)))] [] := by
    intro ni
    induction ni with
    | zero =>
      intro i hni hyi
      have hpl := pbR_lt (M 716) hyi
      refine g_iload_n F dX9_pickOne_4 rfl 0 rfl ?_
      refine g_bipush F (v := 8) dX9_pickOne_5 (by decide +kernel) ?_
      refine g_icmpN_ge F 37 dX9_pickOne_7 (by decide) (i) (8) rfl rfl (by omega) (by omega) (fun hci => ?_) (fun hci => ?_)
      · have e8 : i = 8 := by omega
        refine g_aload_n F dX9_pickOne_37 rfl 1 rfl ?_
        refine gg9_sums F iX9_pickOne_9 r709 (by decide +kernel) dX9_pickOne_38 ?_
        refine g_iload_n F dX9_pickOne_41 rfl 2 rfl ?_
        refine g_iconst F (v := -1) dX9_pickOne_42 (by decide) ?_
        refine g_iastore (r := 716) F a716 ((pbR (M 716) i)) rfl (by omega) (by decide) dX9_pickOne_43 ?_
        refine g_iload_n F dX9_pickOne_44 rfl 2 rfl ?_
        exact K _ _ _ _ dX9_pickOne_45 rfl ⟨by rw [e8], by rw [e8]⟩
      · exact absurd hci (by omega)
    | succ ni ihi =>
      intro i hni hyi
      have hpl := pbR_lt (M 716) hyi
      refine g_iload_n F dX9_pickOne_4 rfl 0 rfl ?_
      refine g_bipush F (v := 8) dX9_pickOne_5 (by decide +kernel) ?_
      refine g_icmpN_ge F 37 dX9_pickOne_7 (by decide) (i) (8) rfl rfl (by omega) (by omega) (fun hci => ?_) (fun hci => ?_)
      · exact absurd hci (by omega)
      · refine g_aload_n F dX9_pickOne_10 rfl 1 rfl ?_
        refine gg9_sums F iX9_pickOne_9 r709 (by decide +kernel) dX9_pickOne_11 ?_
        refine g_iload_n F dX9_pickOne_14 rfl 0 rfl ?_
        refine g_iaload (r := 716) F a716 (i) rfl (by omega) (by decide) dX9_pickOne_15 ?_
        refine g_aload_n F dX9_pickOne_16 rfl 1 rfl ?_
        refine gg9_sums F iX9_pickOne_9 r709 (by decide +kernel) dX9_pickOne_17 ?_
        refine g_iload_n F dX9_pickOne_20 rfl 2 rfl ?_
        refine g_iaload (r := 716) F a716 ((pbR (M 716) i)) rfl (by omega) (by decide) dX9_pickOne_21 ?_
        refine g_icmp_le F 29 dX9_pickOne_22 (by decide) (fun h2 => ?_) (fun h2 => ?_)
        · refine g_iload_n F dX9_pickOne_29 rfl 2 rfl ?_
          refine g_istore_n F (lv2 := [(1, _), (2, _), (0, _)]) dX9_pickOne_30 rfl (by decide) rfl ?_
          refine g_iinc F (lv2 := [(2, _), (1, _), (0, _)]) dX9_pickOne_31 1 rfl (nI_1 _) (by decide) rfl ?_
          refine g_goto F 4 dX9_pickOne_34 (by decide) ?_
          refine g_lv (lv2 := [(2, _), (0, _), (1, _)]) [0, 2, 1] rfl ?_
          exact g_is rfl (by rw [pbR, if_neg (show ¬ i = 0 by omega)]; first | (rw [if_pos (Int32.not_le.mp h2)]; first | done | rfl) | (rw [if_neg (Int32.not_lt.mpr h2)]; first | done | rfl)) (ihi (i + 1) (by omega) (by omega))
        · refine g_iload_n F dX9_pickOne_25 rfl 0 rfl ?_
          refine g_goto F 30 dX9_pickOne_26 (by decide) ?_
          refine g_istore_n F (lv2 := [(1, _), (2, _), (0, _)]) dX9_pickOne_30 rfl (by decide) rfl ?_
          refine g_iinc F (lv2 := [(2, _), (1, _), (0, _)]) dX9_pickOne_31 1 rfl (nI_1 _) (by decide) rfl ?_
          refine g_goto F 4 dX9_pickOne_34 (by decide) ?_
          refine g_lv (lv2 := [(2, _), (0, _), (1, _)]) [0, 2, 1] rfl ?_
          exact g_is rfl (by rw [pbR, if_neg (show ¬ i = 0 by omega)]; first | (rw [if_pos (Int32.not_le.mp h2)]; first | done | rfl) | (rw [if_neg (Int32.not_lt.mpr h2)]; first | done | rfl)) (ihi (i + 1) (by omega) (by omega))
  refine g_lv (lv2 := [(2, _), (0, _), (1, _)]) [0, 2, 1] rfl ?_
  exact g_is rfl rfl (LP (8 - 1) (1) (by omega) (Nat.le_refl _))

abbrev rmX9_toWatch : Room := { frames := 2, cells := 0, slots := 0, locals := 49 }
theorem iX9_toWatch_9 : ∀ w ∈ u_ws RX9 TX9 15, w ∈ wsX9_toWatch := by decide +kernel
set_option maxHeartbeats 200000 in
set_option maxRecDepth 100000 in
theorem kX9_toWatch (l : Launch) {M : Mm} {t : Nat} (ht : t < 96) (h9t : M 710 74 = nI t) (hne : ∀ c, c < 8 → ¬ M 710 (16 + c) = 0) (x z : Int32) : Ct l yX9_toWatch wsX9_toWatch rmX9_toWatch (fun B => [.ref (B + 709), .int x, .int z]) M (fun _ v u => ¬ (1 ≤ x ∧ x ≤ 96) ∧ v = some (.int (0)) ∧ u = thM M 1 ∨ ∃ k, 1 ≤ k ∧ k ≤ 96 ∧ x = nI k ∧ v = some (.int ((ptR (twR M t (min 95 (t + k - 1)) 8) 3).1)) ∧ u = va_up (thM M 0) 716 (ptR (twR M t (min 95 (t + k - 1)) 8) 3).2) := by
  refine Ct.ofI (own := RX9) (by decide +kernel) rfl rfl (fun B => Nat.le_of_ble_eq_true rfl) ?_
  intro pp ee ss mm aa bb me c9 DD ca B Tl AA QQ F K
  show G pp l ee rmX9_toWatch ss mm aa bb me c9 QQ DD ca B Tl AA 6 0 0 M 0 [(0, .ref (B + 709)), (1, .int x), (2, .int z)] []
  refine g_aload_n F dX9_toWatch_0 rfl 0 rfl ?_
  refine g_iconst F (v := 0) dX9_toWatch_1 (by decide) ?_
  refine gp9_thrown F iX9_toWatch_9 r709 (by decide +kernel) dX9_toWatch_2 ?_
  refine g_mem (show va_up M 709 (upd (M 709) 0 0) = thM M 0 from rfl) ?_
  refine g_iload_n F dX9_toWatch_5 rfl 1 rfl ?_
  refine g_iconst F (v := 1) dX9_toWatch_6 (by decide) ?_
  refine g_bipush F (v := 96) dX9_toWatch_7 (by decide +kernel) ?_
  refine g_callS F (kX9_within l _ _ _) (va_cwS 3 F.1.2.2.2.2 gX9_toWatch_X9_within rfl rfl rfl (by decide +kernel) ⟨Nat.le_of_ble_eq_true rfl, Nat.le_of_ble_eq_true rfl⟩) rfl rfl rfl (Nat.le_of_ble_eq_true rfl) dX9_toWatch_9 ⟨Nat.le_of_ble_eq_true rfl, Nat.le_of_ble_eq_true rfl⟩ (g_det ?_)
  refine g_ifB_ne F 21 dX9_toWatch_12 (by decide) (fun h1 => ?_) (fun h1 => ?_)
  · obtain ⟨k, hk1, hk2, rfl⟩ := of_rng (n := 96) (by decide) h1
    refine g_aload_n F dX9_toWatch_21 rfl 0 rfl ?_
    refine gg9_state F iX9_toWatch_9 r709 (by decide +kernel) dX9_toWatch_22 ?_
    refine g_bipush F (v := 74) dX9_toWatch_25 (by decide +kernel) ?_
    refine g_iaload (r := 710) F a710 (74) rfl (by omega) (by decide) dX9_toWatch_27 ?_
    refine g_top (y := nI t) h9t ?_
    refine g_iload_n F dX9_toWatch_28 rfl 1 rfl ?_
    refine g_iadd F dX9_toWatch_29 ?_
    refine g_top (nI_add (t) (k)) ?_
    refine g_iconst F (v := 1) dX9_toWatch_30 (by decide) ?_
    refine g_isub F dX9_toWatch_31 ?_
    refine g_top (pk_sub (a := (t + k)) (b := 1) (by omega)) ?_
    refine g_bipush F (v := 96) dX9_toWatch_32 (by decide +kernel) ?_
    refine g_icmpN_ge F 51 dX9_toWatch_34 (by decide) (((t + k) - 1)) (96) rfl rfl (by omega) (by omega) (fun h2 => ?_) (fun h2 => ?_)
    · refine g_bipush F (v := 95) dX9_toWatch_51 (by decide +kernel) ?_
      refine g_top (y := nI (min 95 (t + k - 1))) (by first | (rw [show (min 95 (t + k - 1)) = t + k - 1 by omega]; done) | (rw [show (min 95 (t + k - 1)) = 95 by omega]; rfl)) ?_
      refine g_istore_n F (lv2 := [(3, _), (0, _), (1, _), (2, _)]) dX9_toWatch_53 rfl (by decide) rfl ?_
      refine g_iconst F (v := 0) dX9_toWatch_54 (by decide) ?_
      refine g_istore F (lv2 := [(4, _), (3, _), (0, _), (1, _), (2, _)]) dX9_toWatch_55 (by decide) rfl ?_
      have LP : ∀ (ni i : Nat), i + ni = 8 → G pp l ee rmX9_toWatch ss mm aa bb me c9 QQ DD ca B Tl AA 6 0 0 (va_up (thM M 0) 716 (twR M t (min 95 (t + k - 1)) i)) 57 [(4, .int (nI i)), (0, .ref (B + 709)), (1, .int (nI k)), (2, .int z), (3, .int (nI (min 95 (t + k - 1))))] [] := by
        intro ni
        induction ni with
        | zero =>
          intro i hni
          refine g_iload F dX9_toWatch_57 0 rfl ?_
          refine g_bipush F (v := 8) dX9_toWatch_59 (by decide +kernel) ?_
          refine g_icmpN_ge F 91 dX9_toWatch_61 (by decide) (i) (8) rfl rfl (by omega) (by omega) (fun hci => ?_) (fun hci => ?_)
          · obtain rfl : i = 8 := by omega
            refine g_iconst F (v := 0) dX9_toWatch_91 (by decide) ?_
            refine g_istore F (lv2 := [(4, _), (0, _), (1, _), (2, _), (3, _)]) dX9_toWatch_92 (by decide) rfl ?_
            refine g_iconst F (v := 0) dX9_toWatch_94 (by decide) ?_
            refine g_istore F (lv2 := [(5, _), (4, _), (0, _), (1, _), (2, _), (3, _)]) dX9_toWatch_95 (by decide) rfl ?_
            have LQ : ∀ (ni i : Nat), i + ni = 3 → G pp l ee rmX9_toWatch ss mm aa bb me c9 QQ DD ca B Tl AA 6 0 0 (va_up (thM M 0) 716 (ptR (twR M t (min 95 (t + k - 1)) 8) i).2) 97 [(5, .int (nI i)), (0, .ref (B + 709)), (1, .int (nI k)), (2, .int z), (3, .int (nI (min 95 (t + k - 1)))), (4, .int (ptR (twR M t (min 95 (t + k - 1)) 8) i).1)] [] := by
              intro ni
              induction ni with
              | zero =>
                intro i hni
                refine g_iload F dX9_toWatch_97 0 rfl ?_
                refine g_iconst F (v := 3) dX9_toWatch_99 (by decide) ?_
                refine g_icmpN_ge F 120 dX9_toWatch_100 (by decide) (i) (3) rfl rfl (by omega) (by omega) (fun hci => ?_) (fun hci => ?_)
                · obtain rfl : i = 3 := by omega
                  refine g_iload F dX9_toWatch_120 5 rfl ?_
                  exact K _ _ _ _ dX9_toWatch_122 rfl (Or.inr ⟨k, hk1, hk2, rfl, rfl, rfl⟩)
                · exact absurd hci (by omega)
              | succ ni ihi =>
                intro i hni
                refine g_iload F dX9_toWatch_97 0 rfl ?_
                refine g_iconst F (v := 3) dX9_toWatch_99 (by decide) ?_
                refine g_icmpN_ge F 120 dX9_toWatch_100 (by decide) (i) (3) rfl rfl (by omega) (by omega) (fun hci => ?_) (fun hci => ?_)
                · exact absurd hci (by omega)
                · refine g_iload F dX9_toWatch_103 5 rfl ?_
                  refine g_iconst F (v := 1) dX9_toWatch_105 (by decide) ?_
                  refine g_aload_n F dX9_toWatch_106 rfl 1 rfl ?_
                  refine g_callV F (kX9_pickOne l (M := va_up (thM M 0) 716 (ptR (twR M t (min 95 (t + k - 1)) 8) i).2)) (cwV 0 F.1.2.2.2.2 gX9_toWatch_X9_pickOne rfl rfl rfl (by decide +kernel) ⟨Nat.le_of_ble_eq_true rfl, Nat.le_of_ble_eq_true rfl⟩) r709 (by decide) rfl rfl rfl rfl (Nat.le_of_ble_eq_true rfl) dX9_toWatch_107 ⟨Nat.le_of_ble_eq_true rfl, Nat.le_of_ble_eq_true rfl⟩ (g_det ?_)
                  refine g_top (show _ = nI (pbR (ptR (twR M t (min 95 (t + k - 1)) 8) i).2 8) from rfl) ?_
                  refine g_ishl F dX9_toWatch_110 ?_
                  refine g_ior F dX9_toWatch_111 ?_
                  refine g_istore F (lv2 := [(4, _), (5, _), (0, _), (1, _), (2, _), (3, _)]) dX9_toWatch_112 (by decide) rfl ?_
                  refine g_iinc F (lv2 := [(5, _), (4, _), (0, _), (1, _), (2, _), (3, _)]) dX9_toWatch_114 1 rfl (nI_1 _) (by decide) rfl ?_
                  refine g_goto F 97 dX9_toWatch_117 (by decide) ?_
                  refine g_lv (lv2 := [(5, _), (0, _), (1, _), (2, _), (3, _), (4, _)]) [0, 2, 3, 4, 5, 1] rfl ?_
                  exact g_is (by rw [bx_uu, va_up_self]; rfl) rfl (ihi (i + 1) (by omega))
            refine g_lv (lv2 := [(5, _), (0, _), (1, _), (2, _), (3, _), (4, _)]) [0, 2, 3, 4, 5, 1] rfl ?_
            exact g_is rfl rfl (LQ (3 - 0) (0) (by omega))
          · exact absurd hci (by omega)
        | succ ni ihi =>
          intro i hni
          refine g_iload F dX9_toWatch_57 0 rfl ?_
          refine g_bipush F (v := 8) dX9_toWatch_59 (by decide +kernel) ?_
          refine g_icmpN_ge F 91 dX9_toWatch_61 (by decide) (i) (8) rfl rfl (by omega) (by omega) (fun hci => ?_) (fun hci => ?_)
          · exact absurd hci (by omega)
          · refine g_aload_n F dX9_toWatch_64 rfl 1 rfl ?_
            refine gg9_sums F iX9_toWatch_9 r709 (by decide +kernel) dX9_toWatch_65 ?_
            refine g_iload F dX9_toWatch_68 0 rfl ?_
            refine g_aload_n F dX9_toWatch_70 rfl 1 rfl ?_
            refine g_iload F dX9_toWatch_71 0 rfl ?_
            refine g_aload_n F dX9_toWatch_73 rfl 1 rfl ?_
            refine gg9_state F iX9_toWatch_9 r709 (by decide +kernel) dX9_toWatch_74 ?_
            refine g_bipush F (v := 74) dX9_toWatch_77 (by decide +kernel) ?_
            refine g_iaload (r := 710) F a710 (74) rfl (by omega) (by decide) dX9_toWatch_79 ?_
            refine g_top (y := nI t) h9t ?_
            refine g_iload_n F dX9_toWatch_80 rfl 4 rfl ?_
            refine g_callV F (kX9_smokes l (M := va_up (thM M 0) 716 (twR M t (min 95 (t + k - 1)) i)) (c := i) (by omega) (hne i (by omega)) (t) ((min 95 (t + k - 1)) + 1) (by omega) (by omega) (nI ((min 95 (t + k - 1)))) (fun j hj => lt_iff (by omega) hj)) (cwV 3 F.1.2.2.2.2 gX9_toWatch_X9_smokes rfl rfl rfl (by decide +kernel) ⟨Nat.le_of_ble_eq_true rfl, Nat.le_of_ble_eq_true rfl⟩) r709 (by decide) rfl rfl rfl rfl (Nat.le_of_ble_eq_true rfl) dX9_toWatch_81 ⟨Nat.le_of_ble_eq_true rfl, Nat.le_of_ble_eq_true rfl⟩ (g_det ?_)
            refine g_top (show _ = sumF (fun j => shR (M 710) i (nI j)) t ((min 95 (t + k - 1)) + 1 - t) from rfl) ?_
            refine g_iastore (r := 716) F a716 (i) rfl (by omega) (by decide) dX9_toWatch_84 ?_
            refine g_iinc F (lv2 := [(4, _), (0, _), (1, _), (2, _), (3, _)]) dX9_toWatch_85 0 rfl (nI_1 _) (by decide) rfl ?_
            refine g_goto F 57 dX9_toWatch_88 (by decide) ?_
            refine g_lv (lv2 := [(4, _), (0, _), (1, _), (2, _), (3, _)]) [0, 1, 2, 3, 4] rfl ?_
            exact g_is (by rw [bx_uu, va_up_self]; rfl) rfl (ihi (i + 1) (by omega))
      refine g_lv (lv2 := [(4, _), (0, _), (1, _), (2, _), (3, _)]) [0, 2, 3, 4, 1] rfl ?_
      exact g_is (show _ = va_up _ 716 _ from (up_id (thM M 0) 716).symm) rfl (LP (8 - 0) (0) (by omega))
    · refine g_aload_n F dX9_toWatch_37 rfl 0 rfl ?_
      refine gg9_state F iX9_toWatch_9 r709 (by decide +kernel) dX9_toWatch_38 ?_
      refine g_bipush F (v := 74) dX9_toWatch_41 (by decide +kernel) ?_
      refine g_iaload (r := 710) F a710 (74) rfl (by omega) (by decide) dX9_toWatch_43 ?_
      refine g_top (y := nI t) h9t ?_
      refine g_iload_n F dX9_toWatch_44 rfl 1 rfl ?_
      refine g_iadd F dX9_toWatch_45 ?_
      refine g_top (nI_add (t) (k)) ?_
      refine g_iconst F (v := 1) dX9_toWatch_46 (by decide) ?_
      refine g_isub F dX9_toWatch_47 ?_
      refine g_top (pk_sub (a := (t + k)) (b := 1) (by omega)) ?_
      refine g_goto F 53 dX9_toWatch_48 (by decide) ?_
      refine g_top (y := nI (min 95 (t + k - 1))) (by first | (rw [show (min 95 (t + k - 1)) = t + k - 1 by omega]; done) | (rw [show (min 95 (t + k - 1)) = 95 by omega]; rfl)) ?_
      refine g_istore_n F (lv2 := [(3, _), (0, _), (1, _), (2, _)]) dX9_toWatch_53 rfl (by decide) rfl ?_
      refine g_iconst F (v := 0) dX9_toWatch_54 (by decide) ?_
      refine g_istore F (lv2 := [(4, _), (3, _), (0, _), (1, _), (2, _)]) dX9_toWatch_55 (by decide) rfl ?_
      have LP : ∀ (ni i : Nat), i + ni = 8 → G pp l ee rmX9_toWatch ss mm aa bb me c9 QQ DD ca B Tl AA 6 0 0 (va_up (thM M 0) 716 (twR M t (min 95 (t + k - 1)) i)) 57 [(4, .int (nI i)), (0, .ref (B + 709)), (1, .int (nI k)), (2, .int z), (3, .int (nI (min 95 (t + k - 1))))] [] := by
        intro ni
        induction ni with
        | zero =>
          intro i hni
          refine g_iload F dX9_toWatch_57 0 rfl ?_
          refine g_bipush F (v := 8) dX9_toWatch_59 (by decide +kernel) ?_
          refine g_icmpN_ge F 91 dX9_toWatch_61 (by decide) (i) (8) rfl rfl (by omega) (by omega) (fun hci => ?_) (fun hci => ?_)
          · obtain rfl : i = 8 := by omega
            refine g_iconst F (v := 0) dX9_toWatch_91 (by decide) ?_
            refine g_istore F (lv2 := [(4, _), (0, _), (1, _), (2, _), (3, _)]) dX9_toWatch_92 (by decide) rfl ?_
            refine g_iconst F (v := 0) dX9_toWatch_94 (by decide) ?_
            refine g_istore F (lv2 := [(5, _), (4, _), (0, _), (1, _), (2, _), (3, _)]) dX9_toWatch_95 (by decide) rfl ?_
            have LQ : ∀ (ni i : Nat), i + ni = 3 → G pp l ee rmX9_toWatch ss mm aa bb me c9 QQ DD ca B Tl AA 6 0 0 (va_up (thM M 0) 716 (ptR (twR M t (min 95 (t + k - 1)) 8) i).2) 97 [(5, .int (nI i)), (0, .ref (B + 709)), (1, .int (nI k)), (2, .int z), (3, .int (nI (min 95 (t + k - 1)))), (4, .int (ptR (twR M t (min 95 (t + k - 1)) 8) i).1)] [] := by
              intro ni
              induction ni with
              | zero =>
                intro i hni
                refine g_iload F dX9_toWatch_97 0 rfl ?_
                refine g_iconst F (v := 3) dX9_toWatch_99 (by decide) ?_
                refine g_icmpN_ge F 120 dX9_toWatch_100 (by decide) (i) (3) rfl rfl (by omega) (by omega) (fun hci => ?_) (fun hci => ?_)
                · obtain rfl : i = 3 := by omega
                  refine g_iload F dX9_toWatch_120 5 rfl ?_
                  exact K _ _ _ _ dX9_toWatch_122 rfl (Or.inr ⟨k, hk1, hk2, rfl, rfl, rfl⟩)
                · exact absurd hci (by omega)
              | succ ni ihi =>
                intro i hni
                refine g_iload F dX9_toWatch_97 0 rfl ?_
                refine g_iconst F (v := 3) dX9_toWatch_99 (by decide) ?_
                refine g_icmpN_ge F 120 dX9_toWatch_100 (by decide) (i) (3) rfl rfl (by omega) (by omega) (fun hci => ?_) (fun hci => ?_)
                · exact absurd hci (by omega)
                · refine g_iload F dX9_toWatch_103 5 rfl ?_
                  refine g_iconst F (v := 1) dX9_toWatch_105 (by decide) ?_
                  refine g_aload_n F dX9_toWatch_106 rfl 1 rfl ?_
                  refine g_callV F (kX9_pickOne l (M := va_up (thM M 0) 716 (ptR (twR M t (min 95 (t + k - 1)) 8) i).2)) (cwV 0 F.1.2.2.2.2 gX9_toWatch_X9_pickOne rfl rfl rfl (by decide +kernel) ⟨Nat.le_of_ble_eq_true rfl, Nat.le_of_ble_eq_true rfl⟩) r709 (by decide) rfl rfl rfl rfl (Nat.le_of_ble_eq_true rfl) dX9_toWatch_107 ⟨Nat.le_of_ble_eq_true rfl, Nat.le_of_ble_eq_true rfl⟩ (g_det ?_)
                  refine g_top (show _ = nI (pbR (ptR (twR M t (min 95 (t + k - 1)) 8) i).2 8) from rfl) ?_
                  refine g_ishl F dX9_toWatch_110 ?_
                  refine g_ior F dX9_toWatch_111 ?_
                  refine g_istore F (lv2 := [(4, _), (5, _), (0, _), (1, _), (2, _), (3, _)]) dX9_toWatch_112 (by decide) rfl ?_
                  refine g_iinc F (lv2 := [(5, _), (4, _), (0, _), (1, _), (2, _), (3, _)]) dX9_toWatch_114 1 rfl (nI_1 _) (by decide) rfl ?_
                  refine g_goto F 97 dX9_toWatch_117 (by decide) ?_
                  refine g_lv (lv2 := [(5, _), (0, _), (1, _), (2, _), (3, _), (4, _)]) [0, 2, 3, 4, 5, 1] rfl ?_
                  exact g_is (by rw [bx_uu, va_up_self]; rfl) rfl (ihi (i + 1) (by omega))
            refine g_lv (lv2 := [(5, _), (0, _), (1, _), (2, _), (3, _), (4, _)]) [0, 2, 3, 4, 5, 1] rfl ?_
            exact g_is rfl rfl (LQ (3 - 0) (0) (by omega))
          · exact absurd hci (by omega)
        | succ ni ihi =>
          intro i hni
          refine g_iload F dX9_toWatch_57 0 rfl ?_
          refine g_bipush F (v := 8) dX9_toWatch_59 (by decide +kernel) ?_
          refine g_icmpN_ge F 91 dX9_toWatch_61 (by decide) (i) (8) rfl rfl (by omega) (by omega) (fun hci => ?_) (fun hci => ?_)
          · exact absurd hci (by omega)
          · refine g_aload_n F dX9_toWatch_64 rfl 1 rfl ?_
            refine gg9_sums F iX9_toWatch_9 r709 (by decide +kernel) dX9_toWatch_65 ?_
            refine g_iload F dX9_toWatch_68 0 rfl ?_
            refine g_aload_n F dX9_toWatch_70 rfl 1 rfl ?_
            refine g_iload F dX9_toWatch_71 0 rfl ?_
            refine g_aload_n F dX9_toWatch_73 rfl 1 rfl ?_
            refine gg9_state F iX9_toWatch_9 r709 (by decide +kernel) dX9_toWatch_74 ?_
            refine g_bipush F (v := 74) dX9_toWatch_77 (by decide +kernel) ?_
            refine g_iaload (r := 710) F a710 (74) rfl (by omega) (by decide) dX9_toWatch_79 ?_
            refine g_top (y := nI t) h9t ?_
            refine g_iload_n F dX9_toWatch_80 rfl 4 rfl ?_
            refine g_callV F (kX9_smokes l (M := va_up (thM M 0) 716 (twR M t (min 95 (t + k - 1)) i)) (c := i) (by omega) (hne i (by omega)) (t) ((min 95 (t + k - 1)) + 1) (by omega) (by omega) (nI ((min 95 (t + k - 1)))) (fun j hj => lt_iff (by omega) hj)) (cwV 3 F.1.2.2.2.2 gX9_toWatch_X9_smokes rfl rfl rfl (by decide +kernel) ⟨Nat.le_of_ble_eq_true rfl, Nat.le_of_ble_eq_true rfl⟩) r709 (by decide) rfl rfl rfl rfl (Nat.le_of_ble_eq_true rfl) dX9_toWatch_81 ⟨Nat.le_of_ble_eq_true rfl, Nat.le_of_ble_eq_true rfl⟩ (g_det ?_)
            refine g_top (show _ = sumF (fun j => shR (M 710) i (nI j)) t ((min 95 (t + k - 1)) + 1 - t) from rfl) ?_
            refine g_iastore (r := 716) F a716 (i) rfl (by omega) (by decide) dX9_toWatch_84 ?_
            refine g_iinc F (lv2 := [(4, _), (0, _), (1, _), (2, _), (3, _)]) dX9_toWatch_85 0 rfl (nI_1 _) (by decide) rfl ?_
            refine g_goto F 57 dX9_toWatch_88 (by decide) ?_
            refine g_lv (lv2 := [(4, _), (0, _), (1, _), (2, _), (3, _)]) [0, 1, 2, 3, 4] rfl ?_
            exact g_is (by rw [bx_uu, va_up_self]; rfl) rfl (ihi (i + 1) (by omega))
      refine g_lv (lv2 := [(4, _), (0, _), (1, _), (2, _), (3, _)]) [0, 2, 3, 4, 1] rfl ?_
      exact g_is (show _ = va_up _ 716 _ from (up_id (thM M 0) 716).symm) rfl (LP (8 - 0) (0) (by omega))
  · refine g_aload_n F dX9_toWatch_15 rfl 0 rfl ?_
    refine g_iconst F (v := 1) dX9_toWatch_16 (by decide) ?_
    refine g_callV F (kX9_fails l _) (cwV 1 F.1.2.2.2.2 gX9_toWatch_X9_fails rfl rfl rfl (by decide +kernel) ⟨Nat.le_of_ble_eq_true rfl, Nat.le_of_ble_eq_true rfl⟩) r709 (by decide) rfl rfl rfl rfl (Nat.le_of_ble_eq_true rfl) dX9_toWatch_17 ⟨Nat.le_of_ble_eq_true rfl, Nat.le_of_ble_eq_true rfl⟩ (g_det ?_)
    refine g_mem (thM_2 M 0 _) ?_
    exact K _ _ _ _ dX9_toWatch_20 rfl (Or.inl ⟨h1, rfl, rfl⟩)

abbrev lsR (f : Nat → Int32) (i b : Nat) : Prop := (f (65 + i)).toInt64 * (f (68 + b)).toInt64 < (f (65 + b)).toInt64 * (f (68 + i)).toInt64
def boR (f : Nat → Int32) : Nat → Int32
  | 0 => -1
  | i + 1 => if 0 < f (68 + i) ∧ (boR f i = -1 ∨ lsR f i (boR f i).toNatClampNeg) then nI i else boR f i
theorem boR_c (f : Nat → Int32) : ∀ i, boR f i = -1 ∨ ∃ b, b < i ∧ boR f i = nI b
  | 0 => Or.inl rfl
  | i + 1 => by
    unfold boR
    split
    · exact Or.inr ⟨i, by omega, rfl⟩
    · rcases boR_c f i with h | ⟨b, hb, e⟩
      · exact Or.inl h
      · exact Or.inr ⟨b, by omega, e⟩
theorem boR_A {f : Nat → Int32} {i : Nat} (h : f (68 + i) ≤ 0) : boR f (i + 1) = boR f i := if_neg (fun z => Int32.not_lt.mpr h z.1)
theorem boR_B {f : Nat → Int32} {i : Nat} (h : ¬ f (68 + i) ≤ 0) (h2 : boR f i = -1) : boR f (i + 1) = nI i := if_pos ⟨Int32.not_le.mp h, Or.inl h2⟩
theorem boR_C {f : Nat → Int32} {i b : Nat} (hb : b < 1000) (e : boR f i = nI b) (h2 : ¬ boR f i = -1) (h : ¬ lsR f i b) : boR f (i + 1) = nI b := by
  rw [boR, if_neg (fun z => z.2.elim h2 (by rw [e, nI_clamp (by omega)]; exact h)), e]
theorem boR_D {f : Nat → Int32} {i b : Nat} (hb : b < 1000) (e : boR f i = nI b) (h1 : ¬ f (68 + i) ≤ 0) (h : lsR f i b) : boR f (i + 1) = nI i := by
  rw [boR, if_pos (And.intro (Int32.not_le.mp h1) (Or.inr (by rw [e, nI_clamp (by omega)]; exact h)))]

abbrev rmX9_bestObserver : Room := { frames := 0, cells := 0, slots := 0, locals := 0 }
theorem iX9_bestObserver_9 : ∀ w ∈ u_ws RX9 TX9 15, w ∈ wsX9_bestObserver := by decide +kernel
set_option maxHeartbeats 200000 in
set_option maxRecDepth 100000 in
theorem kX9_bestObserver (l : Launch) {M : Mm}  : Ct l yX9_bestObserver wsX9_bestObserver rmX9_bestObserver (fun B => [.ref (B + 709)]) M (fun _ v u => v = some (.int (boR (M 710) 3)) ∧ u = thM M 0) := by
  refine Ct.ofI (own := RX9) (by decide +kernel) rfl rfl (fun B => Nat.le_of_ble_eq_true rfl) ?_
  intro pp ee ss mm aa bb me c9 DD ca B Tl AA QQ F K
  show G pp l ee rmX9_bestObserver ss mm aa bb me c9 QQ DD ca B Tl AA 5 0 0 M 0 [(0, .ref (B + 709))] []
  refine g_aload_n F dX9_bestObserver_0 rfl 0 rfl ?_
  refine g_iconst F (v := 0) dX9_bestObserver_1 (by decide) ?_
  refine gp9_thrown F iX9_bestObserver_9 r709 (by decide +kernel) dX9_bestObserver_2 ?_
  refine g_mem (show va_up M 709 (upd (M 709) 0 0) = thM M 0 from rfl) ?_
  refine g_iconst F (v := -1) dX9_bestObserver_5 (by decide) ?_
  refine g_istore_n F (lv2 := [(1, _), (0, _)]) dX9_bestObserver_6 rfl (by decide) rfl ?_
  refine g_iconst F (v := 0) dX9_bestObserver_7 (by decide) ?_
  refine g_istore_n F (lv2 := [(2, _), (1, _), (0, _)]) dX9_bestObserver_8 rfl (by decide) rfl ?_
  have LP : ∀ (ni i : Nat), i + ni = 3 → G pp l ee rmX9_bestObserver ss mm aa bb me c9 QQ DD ca B Tl AA 5 0 0 (thM M 0) 9 [(2, .int (nI i)), (0, .ref (B + 709)), (1, .int (boR (M 710) i))] [] := by
    intro ni
    induction ni with
    | zero =>
      intro i hni
      refine g_iload_n F dX9_bestObserver_9 rfl 0 rfl ?_
      refine g_iconst F (v := 3) dX9_bestObserver_10 (by decide) ?_
      refine g_icmpN_ge F 120 dX9_bestObserver_11 (by decide) (i) (3) rfl rfl (by omega) (by omega) (fun hci => ?_) (fun hci => ?_)
      · obtain rfl : i = 3 := by omega
        refine g_iload_n F dX9_bestObserver_120 rfl 2 rfl ?_
        exact K _ _ _ _ dX9_bestObserver_121 rfl ⟨rfl, rfl⟩
      · exact absurd hci (by omega)
    | succ ni ihi =>
      intro i hni
      refine g_iload_n F dX9_bestObserver_9 rfl 0 rfl ?_
      refine g_iconst F (v := 3) dX9_bestObserver_10 (by decide) ?_
      refine g_icmpN_ge F 120 dX9_bestObserver_11 (by decide) (i) (3) rfl rfl (by omega) (by omega) (fun hci => ?_) (fun hci => ?_)
      · exact absurd hci (by omega)
      · refine g_aload_n F dX9_bestObserver_14 rfl 1 rfl ?_
        refine gg9_state F iX9_bestObserver_9 r709 (by decide +kernel) dX9_bestObserver_15 ?_
        refine g_bipush F (v := 68) dX9_bestObserver_18 (by decide +kernel) ?_
        refine g_iload_n F dX9_bestObserver_20 rfl 0 rfl ?_
        refine g_iadd F dX9_bestObserver_21 ?_
        refine g_top (nI_add (68) (i)) ?_
        refine g_iaload (r := 710) F a710 ((68 + i)) rfl (by omega) (by decide) dX9_bestObserver_22 ?_
        refine g_if_le F 30 dX9_bestObserver_23 (by decide) (fun h1 => ?_) (fun h1 => ?_)
        · refine g_iconst F (v := 0) dX9_bestObserver_30 (by decide) ?_
          refine g_istore_n F (lv2 := [(3, _), (2, _), (0, _), (1, _)]) dX9_bestObserver_31 rfl (by decide) rfl ?_
          refine g_iload_n F dX9_bestObserver_32 rfl 0 rfl ?_
          refine g_if_eq F 91 dX9_bestObserver_33 (by decide) (fun h8 => ?_) (fun h8 => ?_)
          · refine g_iconst F (v := 0) dX9_bestObserver_91 (by decide) ?_
            refine g_istore F (lv2 := [(4, _), (3, _), (2, _), (0, _), (1, _)]) dX9_bestObserver_92 (by decide) rfl ?_
            refine g_iload_n F dX9_bestObserver_94 rfl 1 rfl ?_
            refine g_if_eq F 103 dX9_bestObserver_95 (by decide) (fun h7 => ?_) (fun h7 => ?_)
            · refine g_iload F dX9_bestObserver_103 0 rfl ?_
              refine g_if_eq F 112 dX9_bestObserver_105 (by decide) (fun h6 => ?_) (fun h6 => ?_)
              · refine g_iload_n F dX9_bestObserver_112 rfl 4 rfl ?_
                refine g_istore_n F (lv2 := [(1, _), (4, _), (3, _), (2, _), (0, _)]) dX9_bestObserver_113 rfl (by decide) rfl ?_
                refine g_iinc F (lv2 := [(2, _), (1, _), (4, _), (3, _), (0, _)]) dX9_bestObserver_114 3 rfl (nI_1 _) (by decide) rfl ?_
                refine g_goto F 9 dX9_bestObserver_117 (by decide) ?_
                refine g_lv (lv2 := [(2, _), (0, _), (1, _)]) [0, 4, 1] rfl ?_
                exact g_is rfl (by first | exact absurd (eb.trans h5) h2 | exact absurd h2 h5 | exact congrArg (fun q => [(2, Value.int (nI (i + 1))), (0, Value.ref (B + 709)), (1, Value.int q)]) (boR_A h1).symm | exact congrArg (fun q => [(2, Value.int (nI (i + 1))), (0, Value.ref (B + 709)), (1, Value.int q)]) (boR_B h1 h2).symm | exact congrArg (fun q => [(2, Value.int (nI (i + 1))), (0, Value.ref (B + 709)), (1, Value.int q)]) (boR_C (by omega) eb h2 (lg_ge.mp h3)).symm | exact congrArg (fun q => [(2, Value.int (nI (i + 1))), (0, Value.ref (B + 709)), (1, Value.int q)]) (boR_D (by omega) eb h1 (Decidable.not_not.mp (fun z => h3 (lg_ge.mpr z)))).symm) (ihi (i + 1) (by omega))
              · exact absurd h6 (by decide)
            · exact absurd h7 (by decide)
          · exact absurd h8 (by decide)
        · refine g_iconst F (v := 1) dX9_bestObserver_26 (by decide) ?_
          refine g_goto F 31 dX9_bestObserver_27 (by decide) ?_
          refine g_istore_n F (lv2 := [(3, _), (2, _), (0, _), (1, _)]) dX9_bestObserver_31 rfl (by decide) rfl ?_
          refine g_iload_n F dX9_bestObserver_32 rfl 0 rfl ?_
          refine g_if_eq F 91 dX9_bestObserver_33 (by decide) (fun h8 => ?_) (fun h8 => ?_)
          · exact absurd h8 (by decide)
          · refine g_iload_n F dX9_bestObserver_36 rfl 3 rfl ?_
            refine g_iconst F (v := -1) dX9_bestObserver_37 (by decide) ?_
            refine g_icmp_eq F 91 dX9_bestObserver_38 (by decide) (fun h2 => ?_) (fun h2 => ?_)
            · refine g_iconst F (v := 0) dX9_bestObserver_91 (by decide) ?_
              refine g_istore F (lv2 := [(4, _), (3, _), (2, _), (0, _), (1, _)]) dX9_bestObserver_92 (by decide) rfl ?_
              refine g_iload_n F dX9_bestObserver_94 rfl 1 rfl ?_
              refine g_if_eq F 103 dX9_bestObserver_95 (by decide) (fun h7 => ?_) (fun h7 => ?_)
              · exact absurd h7 (by decide)
              · refine g_iload_n F dX9_bestObserver_98 rfl 4 rfl ?_
                refine g_iconst F (v := -1) dX9_bestObserver_99 (by decide) ?_
                refine g_icmp_eq F 108 dX9_bestObserver_100 (by decide) (fun h5 => ?_) (fun h5 => ?_)
                · refine g_iload_n F dX9_bestObserver_108 rfl 2 rfl ?_
                  refine g_goto F 113 dX9_bestObserver_109 (by decide) ?_
                  refine g_istore_n F (lv2 := [(1, _), (4, _), (3, _), (2, _), (0, _)]) dX9_bestObserver_113 rfl (by decide) rfl ?_
                  refine g_iinc F (lv2 := [(2, _), (1, _), (4, _), (3, _), (0, _)]) dX9_bestObserver_114 3 rfl (nI_1 _) (by decide) rfl ?_
                  refine g_goto F 9 dX9_bestObserver_117 (by decide) ?_
                  refine g_lv (lv2 := [(2, _), (0, _), (1, _)]) [0, 4, 1] rfl ?_
                  exact g_is rfl (by first | exact absurd (eb.trans h5) h2 | exact absurd h2 h5 | exact congrArg (fun q => [(2, Value.int (nI (i + 1))), (0, Value.ref (B + 709)), (1, Value.int q)]) (boR_A h1).symm | exact congrArg (fun q => [(2, Value.int (nI (i + 1))), (0, Value.ref (B + 709)), (1, Value.int q)]) (boR_B h1 h2).symm | exact congrArg (fun q => [(2, Value.int (nI (i + 1))), (0, Value.ref (B + 709)), (1, Value.int q)]) (boR_C (by omega) eb h2 (lg_ge.mp h3)).symm | exact congrArg (fun q => [(2, Value.int (nI (i + 1))), (0, Value.ref (B + 709)), (1, Value.int q)]) (boR_D (by omega) eb h1 (Decidable.not_not.mp (fun z => h3 (lg_ge.mpr z)))).symm) (ihi (i + 1) (by omega))
                · refine g_iload F dX9_bestObserver_103 0 rfl ?_
                  refine g_if_eq F 112 dX9_bestObserver_105 (by decide) (fun h6 => ?_) (fun h6 => ?_)
                  · refine g_iload_n F dX9_bestObserver_112 rfl 4 rfl ?_
                    refine g_istore_n F (lv2 := [(1, _), (4, _), (3, _), (2, _), (0, _)]) dX9_bestObserver_113 rfl (by decide) rfl ?_
                    refine g_iinc F (lv2 := [(2, _), (1, _), (4, _), (3, _), (0, _)]) dX9_bestObserver_114 3 rfl (nI_1 _) (by decide) rfl ?_
                    refine g_goto F 9 dX9_bestObserver_117 (by decide) ?_
                    refine g_lv (lv2 := [(2, _), (0, _), (1, _)]) [0, 4, 1] rfl ?_
                    exact g_is rfl (by first | exact absurd (eb.trans h5) h2 | exact absurd h2 h5 | exact congrArg (fun q => [(2, Value.int (nI (i + 1))), (0, Value.ref (B + 709)), (1, Value.int q)]) (boR_A h1).symm | exact congrArg (fun q => [(2, Value.int (nI (i + 1))), (0, Value.ref (B + 709)), (1, Value.int q)]) (boR_B h1 h2).symm | exact congrArg (fun q => [(2, Value.int (nI (i + 1))), (0, Value.ref (B + 709)), (1, Value.int q)]) (boR_C (by omega) eb h2 (lg_ge.mp h3)).symm | exact congrArg (fun q => [(2, Value.int (nI (i + 1))), (0, Value.ref (B + 709)), (1, Value.int q)]) (boR_D (by omega) eb h1 (Decidable.not_not.mp (fun z => h3 (lg_ge.mpr z)))).symm) (ihi (i + 1) (by omega))
                  · exact absurd h6 (by decide)
            · obtain ⟨b, hb, eb⟩ := (boR_c (M 710) i).resolve_left h2
              rw [eb]
              refine g_aload_n F dX9_bestObserver_41 rfl 2 rfl ?_
              refine gg9_state F iX9_bestObserver_9 r709 (by decide +kernel) dX9_bestObserver_42 ?_
              refine g_bipush F (v := 65) dX9_bestObserver_45 (by decide +kernel) ?_
              refine g_iload_n F dX9_bestObserver_47 rfl 1 rfl ?_
              refine g_iadd F dX9_bestObserver_48 ?_
              refine g_top (nI_add (65) (i)) ?_
              refine g_iaload (r := 710) F a710 ((65 + i)) rfl (by omega) (by decide) dX9_bestObserver_49 ?_
              refine g_i2l F dX9_bestObserver_50 ?_
              refine g_aload_n F dX9_bestObserver_51 rfl 2 rfl ?_
              refine gg9_state F iX9_bestObserver_9 r709 (by decide +kernel) dX9_bestObserver_52 ?_
              refine g_bipush F (v := 68) dX9_bestObserver_55 (by decide +kernel) ?_
              refine g_iload_n F dX9_bestObserver_57 rfl 3 rfl ?_
              refine g_iadd F dX9_bestObserver_58 ?_
              refine g_top (nI_add (68) (b)) ?_
              refine g_iaload (r := 710) F a710 ((68 + b)) rfl (by omega) (by decide) dX9_bestObserver_59 ?_
              refine g_i2l F dX9_bestObserver_60 ?_
              refine g_lmul F dX9_bestObserver_61 ?_
              refine g_aload_n F dX9_bestObserver_62 rfl 2 rfl ?_
              refine gg9_state F iX9_bestObserver_9 r709 (by decide +kernel) dX9_bestObserver_63 ?_
              refine g_bipush F (v := 65) dX9_bestObserver_66 (by decide +kernel) ?_
              refine g_iload_n F dX9_bestObserver_68 rfl 3 rfl ?_
              refine g_iadd F dX9_bestObserver_69 ?_
              refine g_top (nI_add (65) (b)) ?_
              refine g_iaload (r := 710) F a710 ((65 + b)) rfl (by omega) (by decide) dX9_bestObserver_70 ?_
              refine g_i2l F dX9_bestObserver_71 ?_
              refine g_aload_n F dX9_bestObserver_72 rfl 2 rfl ?_
              refine gg9_state F iX9_bestObserver_9 r709 (by decide +kernel) dX9_bestObserver_73 ?_
              refine g_bipush F (v := 68) dX9_bestObserver_76 (by decide +kernel) ?_
              refine g_iload_n F dX9_bestObserver_78 rfl 1 rfl ?_
              refine g_iadd F dX9_bestObserver_79 ?_
              refine g_top (nI_add (68) (i)) ?_
              refine g_iaload (r := 710) F a710 ((68 + i)) rfl (by omega) (by decide) dX9_bestObserver_80 ?_
              refine g_i2l F dX9_bestObserver_81 ?_
              refine g_lmul F dX9_bestObserver_82 ?_
              refine g_lcmp F dX9_bestObserver_83 ?_
              refine g_if_ge F 91 dX9_bestObserver_84 (by decide) (fun h3 => ?_) (fun h3 => ?_)
              · refine g_iconst F (v := 0) dX9_bestObserver_91 (by decide) ?_
                refine g_istore F (lv2 := [(4, _), (3, _), (2, _), (0, _), (1, _)]) dX9_bestObserver_92 (by decide) rfl ?_
                refine g_iload_n F dX9_bestObserver_94 rfl 1 rfl ?_
                refine g_if_eq F 103 dX9_bestObserver_95 (by decide) (fun h7 => ?_) (fun h7 => ?_)
                · exact absurd h7 (by decide)
                · refine g_iload_n F dX9_bestObserver_98 rfl 4 rfl ?_
                  refine g_iconst F (v := -1) dX9_bestObserver_99 (by decide) ?_
                  refine g_icmp_eq F 108 dX9_bestObserver_100 (by decide) (fun h5 => ?_) (fun h5 => ?_)
                  · refine g_iload_n F dX9_bestObserver_108 rfl 2 rfl ?_
                    refine g_goto F 113 dX9_bestObserver_109 (by decide) ?_
                    refine g_istore_n F (lv2 := [(1, _), (4, _), (3, _), (2, _), (0, _)]) dX9_bestObserver_113 rfl (by decide) rfl ?_
                    refine g_iinc F (lv2 := [(2, _), (1, _), (4, _), (3, _), (0, _)]) dX9_bestObserver_114 3 rfl (nI_1 _) (by decide) rfl ?_
                    refine g_goto F 9 dX9_bestObserver_117 (by decide) ?_
                    refine g_lv (lv2 := [(2, _), (0, _), (1, _)]) [0, 4, 1] rfl ?_
                    exact g_is rfl (by first | exact absurd (eb.trans h5) h2 | exact absurd h2 h5 | exact congrArg (fun q => [(2, Value.int (nI (i + 1))), (0, Value.ref (B + 709)), (1, Value.int q)]) (boR_A h1).symm | exact congrArg (fun q => [(2, Value.int (nI (i + 1))), (0, Value.ref (B + 709)), (1, Value.int q)]) (boR_B h1 h2).symm | exact congrArg (fun q => [(2, Value.int (nI (i + 1))), (0, Value.ref (B + 709)), (1, Value.int q)]) (boR_C (by omega) eb h2 (lg_ge.mp h3)).symm | exact congrArg (fun q => [(2, Value.int (nI (i + 1))), (0, Value.ref (B + 709)), (1, Value.int q)]) (boR_D (by omega) eb h1 (Decidable.not_not.mp (fun z => h3 (lg_ge.mpr z)))).symm) (ihi (i + 1) (by omega))
                  · refine g_iload F dX9_bestObserver_103 0 rfl ?_
                    refine g_if_eq F 112 dX9_bestObserver_105 (by decide) (fun h6 => ?_) (fun h6 => ?_)
                    · refine g_iload_n F dX9_bestObserver_112 rfl 4 rfl ?_
                      refine g_istore_n F (lv2 := [(1, _), (4, _), (3, _), (2, _), (0, _)]) dX9_bestObserver_113 rfl (by decide) rfl ?_
                      refine g_iinc F (lv2 := [(2, _), (1, _), (4, _), (3, _), (0, _)]) dX9_bestObserver_114 3 rfl (nI_1 _) (by decide) rfl ?_
                      refine g_goto F 9 dX9_bestObserver_117 (by decide) ?_
                      refine g_lv (lv2 := [(2, _), (0, _), (1, _)]) [0, 4, 1] rfl ?_
                      exact g_is rfl (by first | exact absurd (eb.trans h5) h2 | exact absurd h2 h5 | exact congrArg (fun q => [(2, Value.int (nI (i + 1))), (0, Value.ref (B + 709)), (1, Value.int q)]) (boR_A h1).symm | exact congrArg (fun q => [(2, Value.int (nI (i + 1))), (0, Value.ref (B + 709)), (1, Value.int q)]) (boR_B h1 h2).symm | exact congrArg (fun q => [(2, Value.int (nI (i + 1))), (0, Value.ref (B + 709)), (1, Value.int q)]) (boR_C (by omega) eb h2 (lg_ge.mp h3)).symm | exact congrArg (fun q => [(2, Value.int (nI (i + 1))), (0, Value.ref (B + 709)), (1, Value.int q)]) (boR_D (by omega) eb h1 (Decidable.not_not.mp (fun z => h3 (lg_ge.mpr z)))).symm) (ihi (i + 1) (by omega))
                    · exact absurd h6 (by decide)
              · refine g_iconst F (v := 1) dX9_bestObserver_87 (by decide) ?_
                refine g_goto F 92 dX9_bestObserver_88 (by decide) ?_
                refine g_istore F (lv2 := [(4, _), (3, _), (2, _), (0, _), (1, _)]) dX9_bestObserver_92 (by decide) rfl ?_
                refine g_iload_n F dX9_bestObserver_94 rfl 1 rfl ?_
                refine g_if_eq F 103 dX9_bestObserver_95 (by decide) (fun h7 => ?_) (fun h7 => ?_)
                · exact absurd h7 (by decide)
                · refine g_iload_n F dX9_bestObserver_98 rfl 4 rfl ?_
                  refine g_iconst F (v := -1) dX9_bestObserver_99 (by decide) ?_
                  refine g_icmp_eq F 108 dX9_bestObserver_100 (by decide) (fun h5 => ?_) (fun h5 => ?_)
                  · refine g_iload_n F dX9_bestObserver_108 rfl 2 rfl ?_
                    refine g_goto F 113 dX9_bestObserver_109 (by decide) ?_
                    refine g_istore_n F (lv2 := [(1, _), (4, _), (3, _), (2, _), (0, _)]) dX9_bestObserver_113 rfl (by decide) rfl ?_
                    refine g_iinc F (lv2 := [(2, _), (1, _), (4, _), (3, _), (0, _)]) dX9_bestObserver_114 3 rfl (nI_1 _) (by decide) rfl ?_
                    refine g_goto F 9 dX9_bestObserver_117 (by decide) ?_
                    refine g_lv (lv2 := [(2, _), (0, _), (1, _)]) [0, 4, 1] rfl ?_
                    exact g_is rfl (by first | exact absurd (eb.trans h5) h2 | exact absurd h2 h5 | exact congrArg (fun q => [(2, Value.int (nI (i + 1))), (0, Value.ref (B + 709)), (1, Value.int q)]) (boR_A h1).symm | exact congrArg (fun q => [(2, Value.int (nI (i + 1))), (0, Value.ref (B + 709)), (1, Value.int q)]) (boR_B h1 h2).symm | exact congrArg (fun q => [(2, Value.int (nI (i + 1))), (0, Value.ref (B + 709)), (1, Value.int q)]) (boR_C (by omega) eb h2 (lg_ge.mp h3)).symm | exact congrArg (fun q => [(2, Value.int (nI (i + 1))), (0, Value.ref (B + 709)), (1, Value.int q)]) (boR_D (by omega) eb h1 (Decidable.not_not.mp (fun z => h3 (lg_ge.mpr z)))).symm) (ihi (i + 1) (by omega))
                  · refine g_iload F dX9_bestObserver_103 0 rfl ?_
                    refine g_if_eq F 112 dX9_bestObserver_105 (by decide) (fun h6 => ?_) (fun h6 => ?_)
                    · exact absurd h6 (by decide)
                    · refine g_iload_n F dX9_bestObserver_108 rfl 2 rfl ?_
                      refine g_goto F 113 dX9_bestObserver_109 (by decide) ?_
                      refine g_istore_n F (lv2 := [(1, _), (4, _), (3, _), (2, _), (0, _)]) dX9_bestObserver_113 rfl (by decide) rfl ?_
                      refine g_iinc F (lv2 := [(2, _), (1, _), (4, _), (3, _), (0, _)]) dX9_bestObserver_114 3 rfl (nI_1 _) (by decide) rfl ?_
                      refine g_goto F 9 dX9_bestObserver_117 (by decide) ?_
                      refine g_lv (lv2 := [(2, _), (0, _), (1, _)]) [0, 4, 1] rfl ?_
                      exact g_is rfl (by first | exact absurd (eb.trans h5) h2 | exact absurd h2 h5 | exact congrArg (fun q => [(2, Value.int (nI (i + 1))), (0, Value.ref (B + 709)), (1, Value.int q)]) (boR_A h1).symm | exact congrArg (fun q => [(2, Value.int (nI (i + 1))), (0, Value.ref (B + 709)), (1, Value.int q)]) (boR_B h1 h2).symm | exact congrArg (fun q => [(2, Value.int (nI (i + 1))), (0, Value.ref (B + 709)), (1, Value.int q)]) (boR_C (by omega) eb h2 (lg_ge.mp h3)).symm | exact congrArg (fun q => [(2, Value.int (nI (i + 1))), (0, Value.ref (B + 709)), (1, Value.int q)]) (boR_D (by omega) eb h1 (Decidable.not_not.mp (fun z => h3 (lg_ge.mpr z)))).symm) (ihi (i + 1) (by omega))
  refine g_lv (lv2 := [(2, _), (0, _), (1, _)]) [0, 2, 1] rfl ?_
  exact g_is rfl rfl (LP (3 - 0) (0) (by omega))
