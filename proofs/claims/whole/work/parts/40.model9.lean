theorem nb_row (M : Mm) (y : Int32) (k : Nat) {j : Nat} (h : j < 1804) : nbM M y k 710 j = M 710 j := by
  unfold nbM
  rw [va_up_self]; unfold cpW
  rw [if_pos h, if_pos h]
def mlR (M : Mm) (k : Nat) : Nat → Mm
  | 0 => thM M 0
  | i + 1 => nbM (mlR M k i) (nI (5 - i)) k
def mlV (M : Mm) (k : Nat) : Nat → Int32
  | 0 => -1
  | i + 1 => if nbV (mlR M k i) (nI (5 - i)) k = 0 then nI (5 - i) else mlV M k i
theorem mlR_row (M : Mm) (k : Nat) {j : Nat} (h : j < 1804) : ∀ i, mlR M k i 710 j = M 710 j
  | 0 => rfl
  | i + 1 => (nb_row _ _ _ h).trans (mlR_row M k h i)
theorem mlR_RW {M : Mm} (k : Nat) (r : RW (M 710)) (i : Nat) : RW (mlR M k i 710) := by
  obtain ⟨t, p, n, r⟩ := r
  exact ⟨t, p, n, RV_of (fun j hj => mlR_row M k (by omega) i) r⟩
theorem n5_pos {i : Nat} (h : i < 5) : ¬ nI (5 - i) ≤ 0 := fun z => absurd ((nI_leI (a := 5 - i) (b := 0) (by omega) (by decide)).mp z) (by omega)
def hnF (f : Nat → Int32) (x : Int32) (m : Nat) : Nat → Int32
  | 0 => 0
  | i + 1 => if ¬ hnF f x m i = 0 ∨ f (92 + (m + i)) = x then 1 else 0
theorem hnF_bit (f : Nat → Int32) (x : Int32) (m : Nat) : ∀ i, bit (hnF f x m i)
  | 0 => bit_0
  | i + 1 => by unfold hnF; split; exact bit_1; exact bit_0

abbrev rmX9_mildLimit : Room := { frames := 6, cells := 0, slots := 0, locals := 140 }
theorem iX9_mildLimit_9 : ∀ w ∈ u_ws RX9 TX9 15, w ∈ wsX9_mildLimit := by decide +kernel
set_option maxHeartbeats 200000 in
set_option maxRecDepth 100000 in
theorem kX9_mildLimit (l : Launch) {M : Mm} (hW : RW (M 710)) (x : Int32) : Ct l yX9_mildLimit wsX9_mildLimit rmX9_mildLimit (fun B => [.ref (B + 709), .int x]) M (fun _ v u => ¬ (1 ≤ x ∧ x ≤ 200) ∧ v = some (.int (0)) ∧ u = thM M 1 ∨ ∃ k, 1 ≤ k ∧ k ≤ 200 ∧ x = nI k ∧ v = some (.int (mlV M k 5)) ∧ u = mlR M k 5) := by
  refine Ct.ofI (own := RX9) (by decide +kernel) rfl rfl (fun B => Nat.le_of_ble_eq_true rfl) ?_
  intro pp ee ss mm aa bb me c9 DD ca B Tl AA QQ F K
  show G pp l ee rmX9_mildLimit ss mm aa bb me c9 QQ DD ca B Tl AA 4 0 0 M 0 [(0, .ref (B + 709)), (1, .int x)] []
  refine g_aload_n F dX9_mildLimit_0 rfl 0 rfl ?_
  refine g_iconst F (v := 0) dX9_mildLimit_1 (by decide) ?_
  refine gp9_thrown F iX9_mildLimit_9 r709 (by decide +kernel) dX9_mildLimit_2 ?_
  refine g_mem (show va_up M 709 (upd (M 709) 0 0) = thM M 0 from rfl) ?_
  refine g_iload_n F dX9_mildLimit_5 rfl 1 rfl ?_
  refine g_callS F (kX9_isPass l _) (va_cwS 1 F.1.2.2.2.2 gX9_mildLimit_X9_isPass rfl rfl rfl (by decide +kernel) ⟨Nat.le_of_ble_eq_true rfl, Nat.le_of_ble_eq_true rfl⟩) rfl rfl rfl (Nat.le_of_ble_eq_true rfl) dX9_mildLimit_6 ⟨Nat.le_of_ble_eq_true rfl, Nat.le_of_ble_eq_true rfl⟩ (g_det ?_)
  refine g_ifB_ne F 18 dX9_mildLimit_9 (by decide) (fun h1 => ?_) (fun h1 => ?_)
  · obtain ⟨k, hk1, hk2, rfl⟩ := of_rng (n := 200) (by decide) h1
    refine g_iconst F (v := -1) dX9_mildLimit_18 (by decide) ?_
    refine g_istore_n F (lv2 := [(2, _), (0, _), (1, _)]) dX9_mildLimit_19 rfl (by decide) rfl ?_
    refine g_iconst F (v := 5) dX9_mildLimit_20 (by decide) ?_
    refine g_istore_n F (lv2 := [(3, _), (2, _), (0, _), (1, _)]) dX9_mildLimit_21 rfl (by decide) rfl ?_
    have LP : ∀ (ni i : Nat), i + ni = 5 → G pp l ee rmX9_mildLimit ss mm aa bb me c9 QQ DD ca B Tl AA 4 0 0 (mlR M k i) 22 [(3, .int (nI (5 - i))), (0, .ref (B + 709)), (1, .int (nI k)), (2, .int (mlV M k i))] [] := by
      intro ni
      induction ni with
      | zero =>
        intro i hni
        refine g_iload_n F dX9_mildLimit_22 rfl 0 rfl ?_
        refine g_if_le F 47 dX9_mildLimit_23 (by decide) (fun h2 => ?_) (fun h2 => ?_)
        · obtain rfl : i = 5 := by omega
          refine g_iload_n F dX9_mildLimit_47 rfl 3 rfl ?_
          exact K _ _ _ _ dX9_mildLimit_48 rfl (Or.inr ⟨k, hk1, hk2, rfl, rfl, rfl⟩)
        · exact absurd (by rw [show 5 - i = 0 by omega]; decide) h2
      | succ ni ihi =>
        intro i hni
        refine g_iload_n F dX9_mildLimit_22 rfl 0 rfl ?_
        refine g_if_le F 47 dX9_mildLimit_23 (by decide) (fun h2 => ?_) (fun h2 => ?_)
        · exact absurd h2 (n5_pos (by omega))
        · refine g_aload_n F dX9_mildLimit_26 rfl 1 rfl ?_
          refine g_iload_n F dX9_mildLimit_27 rfl 2 rfl ?_
          refine g_iload_n F dX9_mildLimit_28 rfl 0 rfl ?_
          refine g_callV F (kX9_noticesBehind l (M := mlR M k i) (k := k) (by omega) (mlR_RW k hW i) _) (cwV 2 F.1.2.2.2.2 gX9_mildLimit_X9_noticesBehind rfl rfl rfl (by decide +kernel) ⟨Nat.le_of_ble_eq_true rfl, Nat.le_of_ble_eq_true rfl⟩) r709 (by decide) rfl rfl rfl rfl (Nat.le_of_ble_eq_true rfl) dX9_mildLimit_29 ⟨Nat.le_of_ble_eq_true rfl, Nat.le_of_ble_eq_true rfl⟩ (g_det ?_)
          refine g_if_ne F 39 dX9_mildLimit_32 (by decide) (fun h3 => ?_) (fun h3 => ?_)
          · refine g_iload_n F dX9_mildLimit_39 rfl 3 rfl ?_
            refine g_istore_n F (lv2 := [(2, _), (3, _), (0, _), (1, _)]) dX9_mildLimit_40 rfl (by decide) rfl ?_
            refine g_iinc F (lv2 := [(3, _), (2, _), (0, _), (1, _)]) dX9_mildLimit_41 1 rfl rfl (by decide) rfl ?_
            refine g_goto F 22 dX9_mildLimit_44 (by decide) ?_
            refine g_lv (lv2 := [(3, _), (0, _), (1, _), (2, _)]) [0, 2, 3, 1] rfl ?_
            exact g_is rfl (by rw [dn_1, dn_ (show i < 5 by omega), mlV]; first | (rw [if_pos h3]; first | done | rfl) | (rw [if_neg h3]; first | done | rfl)) (ihi (i + 1) (by omega))
          · refine g_iload_n F dX9_mildLimit_35 rfl 0 rfl ?_
            refine g_goto F 40 dX9_mildLimit_36 (by decide) ?_
            refine g_istore_n F (lv2 := [(2, _), (3, _), (0, _), (1, _)]) dX9_mildLimit_40 rfl (by decide) rfl ?_
            refine g_iinc F (lv2 := [(3, _), (2, _), (0, _), (1, _)]) dX9_mildLimit_41 1 rfl rfl (by decide) rfl ?_
            refine g_goto F 22 dX9_mildLimit_44 (by decide) ?_
            refine g_lv (lv2 := [(3, _), (0, _), (1, _), (2, _)]) [0, 2, 3, 1] rfl ?_
            exact g_is rfl (by rw [dn_1, dn_ (show i < 5 by omega), mlV]; first | (rw [if_pos h3]; first | done | rfl) | (rw [if_neg h3]; first | done | rfl)) (ihi (i + 1) (by omega))
    refine g_lv (lv2 := [(3, _), (0, _), (1, _), (2, _)]) [0, 2, 3, 1] rfl ?_
    exact g_is rfl rfl (LP (5 - 0) (0) (by omega))
  · refine g_aload_n F dX9_mildLimit_12 rfl 0 rfl ?_
    refine g_iconst F (v := 1) dX9_mildLimit_13 (by decide) ?_
    refine g_callV F (kX9_fails l _) (cwV 1 F.1.2.2.2.2 gX9_mildLimit_X9_fails rfl rfl rfl (by decide +kernel) ⟨Nat.le_of_ble_eq_true rfl, Nat.le_of_ble_eq_true rfl⟩) r709 (by decide) rfl rfl rfl rfl (Nat.le_of_ble_eq_true rfl) dX9_mildLimit_14 ⟨Nat.le_of_ble_eq_true rfl, Nat.le_of_ble_eq_true rfl⟩ (g_det ?_)
    refine g_mem (thM_2 M 0 _) ?_
    exact K _ _ _ _ dX9_mildLimit_17 rfl (Or.inl ⟨h1, rfl, rfl⟩)

abbrev rmX9_hasNotice : Room := { frames := 0, cells := 0, slots := 0, locals := 0 }
theorem iX9_hasNotice_9 : ∀ w ∈ u_ws RX9 TX9 15, w ∈ wsX9_hasNotice := by decide +kernel
set_option maxHeartbeats 200000 in
set_option maxRecDepth 100000 in
theorem kX9_hasNotice (l : Launch) {M : Mm} {m n : Nat} (hm : m ≤ 20) (hn : M 710 75 = nI n) (hn20 : n ≤ 20) (x : Int32) : Ct l yX9_hasNotice wsX9_hasNotice rmX9_hasNotice (fun B => [.ref (B + 709), .int x, .int (nI m)]) M (fun _ v u => v = some (.int (hnF (M 710) x m (n - m))) ∧ u = M) := by
  refine Ct.ofI (own := RX9) (by decide +kernel) rfl rfl (fun B => Nat.le_of_ble_eq_true rfl) ?_
  intro pp ee ss mm aa bb me c9 DD ca B Tl AA QQ F K
  show G pp l ee rmX9_hasNotice ss mm aa bb me c9 QQ DD ca B Tl AA 5 0 0 M 0 [(0, .ref (B + 709)), (1, .int x), (2, .int (nI m))] []
  refine g_iconst F (v := 0) dX9_hasNotice_0 (by decide) ?_
  refine g_istore_n F (lv2 := [(3, _), (0, _), (1, _), (2, _)]) dX9_hasNotice_1 rfl (by decide) rfl ?_
  refine g_iload_n F dX9_hasNotice_2 rfl 3 rfl ?_
  refine g_istore F (lv2 := [(4, _), (3, _), (0, _), (1, _), (2, _)]) dX9_hasNotice_3 (by decide) rfl ?_
  have LP : ∀ (ni i : Nat), i + ni = (max m n) → m ≤ i → G pp l ee rmX9_hasNotice ss mm aa bb me c9 QQ DD ca B Tl AA 5 0 0 (M) 5 [(4, .int (nI i)), (0, .ref (B + 709)), (1, .int x), (2, .int (nI m)), (3, .int (hnF (M 710) x m (i - m)))] [] := by
    intro ni
    induction ni with
    | zero =>
      intro i hni hyi
      refine g_iload F dX9_hasNotice_5 0 rfl ?_
      refine g_aload_n F dX9_hasNotice_7 rfl 1 rfl ?_
      refine gg9_state F iX9_hasNotice_9 r709 (by decide +kernel) dX9_hasNotice_8 ?_
      refine g_bipush F (v := 75) dX9_hasNotice_11 (by decide +kernel) ?_
      refine g_iaload (r := 710) F a710 (75) rfl (by omega) (by decide) dX9_hasNotice_13 ?_
      refine g_top hn ?_
      refine g_icmpN_ge F 47 dX9_hasNotice_14 (by decide) (i) (n) rfl rfl (by omega) (by omega) (fun hci => ?_) (fun hci => ?_)
      · refine g_iload_n F dX9_hasNotice_47 rfl 4 rfl ?_
        exact K _ _ _ _ dX9_hasNotice_48 (bit_z (hnF_bit _ _ _ _)).1 ⟨by rw [show i - m = n - m by omega], rfl⟩
      · exact absurd hci (by omega)
    | succ ni ihi =>
      intro i hni hyi
      refine g_iload F dX9_hasNotice_5 0 rfl ?_
      refine g_aload_n F dX9_hasNotice_7 rfl 1 rfl ?_
      refine gg9_state F iX9_hasNotice_9 r709 (by decide +kernel) dX9_hasNotice_8 ?_
      refine g_bipush F (v := 75) dX9_hasNotice_11 (by decide +kernel) ?_
      refine g_iaload (r := 710) F a710 (75) rfl (by omega) (by decide) dX9_hasNotice_13 ?_
      refine g_top hn ?_
      refine g_icmpN_ge F 47 dX9_hasNotice_14 (by decide) (i) (n) rfl rfl (by omega) (by omega) (fun hci => ?_) (fun hci => ?_)
      · exact absurd hci (by omega)
      · refine g_iload_n F dX9_hasNotice_17 rfl 4 rfl ?_
        refine g_if_ne F 35 dX9_hasNotice_18 (by decide) (fun h2 => ?_) (fun h2 => ?_)
        · refine g_iconst F (v := 1) dX9_hasNotice_35 (by decide) ?_
          refine g_goto F 40 dX9_hasNotice_36 (by decide) ?_
          refine g_istore_n F (lv2 := [(3, _), (4, _), (0, _), (1, _), (2, _)]) dX9_hasNotice_40 rfl (by decide) rfl ?_
          refine g_iinc F (lv2 := [(4, _), (3, _), (0, _), (1, _), (2, _)]) dX9_hasNotice_41 1 rfl (nI_1 _) (by decide) rfl ?_
          refine g_goto F 5 dX9_hasNotice_44 (by decide) ?_
          refine g_lv (lv2 := [(4, _), (0, _), (1, _), (2, _), (3, _)]) [0, 2, 3, 4, 1] rfl ?_
          exact g_is rfl (by rw [show i + 1 - m = (i - m) + 1 by omega, hnF, show m + (i - m) = i by omega]; first | (rw [if_pos (Or.inl h2)]; first | done | rfl) | (rw [if_pos (Or.inr (Decidable.not_not.mp h3))]; first | done | rfl) | (rw [if_pos (Or.inr h3)]; first | done | rfl) | (rw [if_neg (fun z => z.elim (fun q => q h2) h3)]; first | done | rfl)) (ihi (i + 1) (by omega) (by omega))
        · refine g_aload_n F dX9_hasNotice_21 rfl 1 rfl ?_
          refine gg9_state F iX9_hasNotice_9 r709 (by decide +kernel) dX9_hasNotice_22 ?_
          refine g_bipush F (v := 92) dX9_hasNotice_25 (by decide +kernel) ?_
          refine g_iload F dX9_hasNotice_27 0 rfl ?_
          refine g_iadd F dX9_hasNotice_29 ?_
          refine g_top (nI_add (92) (i)) ?_
          refine g_iaload (r := 710) F a710 ((92 + i)) rfl (by omega) (by decide) dX9_hasNotice_30 ?_
          refine g_iload_n F dX9_hasNotice_31 rfl 2 rfl ?_
          refine g_icmp_ne F 39 dX9_hasNotice_32 (by decide) (fun h3 => ?_) (fun h3 => ?_)
          · refine g_iconst F (v := 0) dX9_hasNotice_39 (by decide) ?_
            refine g_istore_n F (lv2 := [(3, _), (4, _), (0, _), (1, _), (2, _)]) dX9_hasNotice_40 rfl (by decide) rfl ?_
            refine g_iinc F (lv2 := [(4, _), (3, _), (0, _), (1, _), (2, _)]) dX9_hasNotice_41 1 rfl (nI_1 _) (by decide) rfl ?_
            refine g_goto F 5 dX9_hasNotice_44 (by decide) ?_
            refine g_lv (lv2 := [(4, _), (0, _), (1, _), (2, _), (3, _)]) [0, 2, 3, 4, 1] rfl ?_
            exact g_is rfl (by rw [show i + 1 - m = (i - m) + 1 by omega, hnF, show m + (i - m) = i by omega]; first | (rw [if_pos (Or.inl h2)]; first | done | rfl) | (rw [if_pos (Or.inr (Decidable.not_not.mp h3))]; first | done | rfl) | (rw [if_pos (Or.inr h3)]; first | done | rfl) | (rw [if_neg (fun z => z.elim (fun q => q h2) h3)]; first | done | rfl)) (ihi (i + 1) (by omega) (by omega))
          · refine g_iconst F (v := 1) dX9_hasNotice_35 (by decide) ?_
            refine g_goto F 40 dX9_hasNotice_36 (by decide) ?_
            refine g_istore_n F (lv2 := [(3, _), (4, _), (0, _), (1, _), (2, _)]) dX9_hasNotice_40 rfl (by decide) rfl ?_
            refine g_iinc F (lv2 := [(4, _), (3, _), (0, _), (1, _), (2, _)]) dX9_hasNotice_41 1 rfl (nI_1 _) (by decide) rfl ?_
            refine g_goto F 5 dX9_hasNotice_44 (by decide) ?_
            refine g_lv (lv2 := [(4, _), (0, _), (1, _), (2, _), (3, _)]) [0, 2, 3, 4, 1] rfl ?_
            exact g_is rfl (by rw [show i + 1 - m = (i - m) + 1 by omega, hnF, show m + (i - m) = i by omega]; first | (rw [if_pos (Or.inl h2)]; first | done | rfl) | (rw [if_pos (Or.inr (Decidable.not_not.mp h3))]; first | done | rfl) | (rw [if_pos (Or.inr h3)]; first | done | rfl) | (rw [if_neg (fun z => z.elim (fun q => q h2) h3)]; first | done | rfl)) (ihi (i + 1) (by omega) (by omega))
  refine g_lv (lv2 := [(4, _), (0, _), (1, _), (2, _), (3, _)]) [0, 2, 3, 4, 1] rfl ?_
  exact g_is rfl (by rw [Nat.sub_self]; rfl) (LP ((max m n) - m) (m) (by omega) (Nat.le_refl _))

/-- whether chimney c has a notice from number n on, after j ticks -/
def hsT (f : Nat → Int32) (c n j : Nat) : Int32 := hnF (psR f j) (nI c) n ((psR f j 75).toNatClampNeg - n)

theorem RW_75 {f : Nat → Int32} (h : RW f) : f 75 = nI (f 75).toNatClampNeg ∧ (f 75).toNatClampNeg ≤ 20 := by
  obtain ⟨t, p, n, a1, a2, a3, a4, a5, a6, a7, -⟩ := h
  rw [a7, nI_clamp (by omega)]; exact ⟨rfl, a6⟩

abbrev rmX9_ticksToNotice : Room := { frames := 4, cells := 0, slots := 0, locals := 94 }
theorem iX9_ticksToNotice_9 : ∀ w ∈ u_ws RX9 TX9 15, w ∈ wsX9_ticksToNotice := by decide +kernel
set_option maxHeartbeats 200000 in
set_option maxRecDepth 100000 in
theorem kX9_ticksToNotice (l : Launch) {M : Mm} {n : Nat} (hn : M 710 75 = nI n) (hn20 : n ≤ 20) (hW : RW (M 710)) (x : Int32) : Ct l yX9_ticksToNotice wsX9_ticksToNotice rmX9_ticksToNotice (fun B => [.ref (B + 709), .int x]) M (fun _ v u => ¬ (0 ≤ x ∧ x ≤ 7) ∧ v = some (.int (0)) ∧ u = thM M 1 ∨ ∃ c, c < 8 ∧ x = nI c ∧ ∃ i, i ≤ 200 ∧ (∀ j, j < i → hsT (M 710) c n j = 0) ∧ (i = 200 ∨ ¬ hsT (M 710) c n i = 0) ∧ v = some (.int (if hsT (M 710) c n i = 0 then -1 else nI i)) ∧ u = va_up (va_up (thM M 0) 714 (cpW (M 714) (M 710) 1804)) 710 (cpW (psR (M 710) i) (cpW (M 714) (M 710) 1804) 1804)) := by
  refine Ct.ofI (own := RX9) (by decide +kernel) rfl rfl (fun B => Nat.le_of_ble_eq_true rfl) ?_
  intro pp ee ss mm aa bb me c9 DD ca B Tl AA QQ F K
  show G pp l ee rmX9_ticksToNotice ss mm aa bb me c9 QQ DD ca B Tl AA 5 0 0 M 0 [(0, .ref (B + 709)), (1, .int x)] []
  refine g_aload_n F dX9_ticksToNotice_0 rfl 0 rfl ?_
  refine g_iconst F (v := 0) dX9_ticksToNotice_1 (by decide) ?_
  refine gp9_thrown F iX9_ticksToNotice_9 r709 (by decide +kernel) dX9_ticksToNotice_2 ?_
  refine g_mem (show va_up M 709 (upd (M 709) 0 0) = thM M 0 from rfl) ?_
  refine g_iload_n F dX9_ticksToNotice_5 rfl 1 rfl ?_
  refine g_callS F (kX9_isChimney l _) (va_cwS 1 F.1.2.2.2.2 gX9_ticksToNotice_X9_isChimney rfl rfl rfl (by decide +kernel) ⟨Nat.le_of_ble_eq_true rfl, Nat.le_of_ble_eq_true rfl⟩) rfl rfl rfl (Nat.le_of_ble_eq_true rfl) dX9_ticksToNotice_6 ⟨Nat.le_of_ble_eq_true rfl, Nat.le_of_ble_eq_true rfl⟩ (g_det ?_)
  refine g_ifB_ne F 18 dX9_ticksToNotice_9 (by decide) (fun h1 => ?_) (fun h1 => ?_)
  · obtain ⟨c, hc_, rfl⟩ := ofk (n := 7) (by decide) h1
    have hc : c < 8 := by omega
    refine g_aload_n F dX9_ticksToNotice_18 rfl 0 rfl ?_
    refine g_callV F (kX9_putAside l) (cwV 0 F.1.2.2.2.2 gX9_ticksToNotice_X9_putAside rfl rfl rfl (by decide +kernel) ⟨Nat.le_of_ble_eq_true rfl, Nat.le_of_ble_eq_true rfl⟩) r709 (by decide) rfl rfl rfl rfl (Nat.le_of_ble_eq_true rfl) dX9_ticksToNotice_19 ⟨Nat.le_of_ble_eq_true rfl, Nat.le_of_ble_eq_true rfl⟩ (g_det ?_)
    refine g_mem (show _ = (va_up (thM M 0) 714 (cpW (M 714) (M 710) 1804)) from rfl) ?_
    refine g_aload_n F dX9_ticksToNotice_22 rfl 0 rfl ?_
    refine gg9_state F iX9_ticksToNotice_9 r709 (by decide +kernel) dX9_ticksToNotice_23 ?_
    refine g_bipush F (v := 75) dX9_ticksToNotice_26 (by decide +kernel) ?_
    refine g_iaload (r := 710) F a710 (75) rfl (by omega) (by decide) dX9_ticksToNotice_28 ?_
    refine g_top hn ?_
    refine g_istore_n F (lv2 := [(2, _), (0, _), (1, _)]) dX9_ticksToNotice_29 rfl (by decide) rfl ?_
    refine g_iconst F (v := 0) dX9_ticksToNotice_30 (by decide) ?_
    refine g_istore_n F (lv2 := [(3, _), (2, _), (0, _), (1, _)]) dX9_ticksToNotice_31 rfl (by decide) rfl ?_
    have LP : ∀ (ni i : Nat), i + ni = 200 → (∀ j, j < i → hsT (M 710) c n j = 0) → G pp l ee rmX9_ticksToNotice ss mm aa bb me c9 QQ DD ca B Tl AA 5 0 0 (va_up (va_up (thM M 0) 714 (cpW (M 714) (M 710) 1804)) 710 (psR (M 710) i)) 32 [(3, .int (nI i)), (0, .ref (B + 709)), (1, .int (nI c)), (2, .int (nI n))] [] := by
      intro ni
      induction ni with
      | zero =>
        intro i hni hyi
        refine g_iload_n F dX9_ticksToNotice_32 rfl 0 rfl ?_
        refine g_sipush F (v := 200) dX9_ticksToNotice_33 (by decide +kernel) ?_
        refine g_icmpN_ge F 58 dX9_ticksToNotice_36 (by decide) (i) (200) rfl rfl (by omega) (by omega) (fun hci => ?_) (fun hci => ?_)
        · have hor : i = 200 ∨ ¬ hsT (M 710) c n i = 0 := Or.inl (by omega)
          refine g_aload_n F dX9_ticksToNotice_58 rfl 1 rfl ?_
          refine g_iload_n F dX9_ticksToNotice_59 rfl 2 rfl ?_
          refine g_iload_n F dX9_ticksToNotice_60 rfl 3 rfl ?_
          refine g_callV F (kX9_hasNotice l (M := va_up (va_up (thM M 0) 714 (cpW (M 714) (M 710) 1804)) 710 (psR (M 710) i)) (m := n) (n := (psR (M 710) i 75).toNatClampNeg) hn20 (by rw [va_up_self]; exact (RW_75 (psR_RW hW i)).1) (RW_75 (psR_RW hW i)).2 _) (cwV 2 F.1.2.2.2.2 gX9_ticksToNotice_X9_hasNotice rfl rfl rfl (by decide +kernel) ⟨Nat.le_of_ble_eq_true rfl, Nat.le_of_ble_eq_true rfl⟩) r709 (by decide) rfl rfl rfl rfl (Nat.le_of_ble_eq_true rfl) dX9_ticksToNotice_61 ⟨Nat.le_of_ble_eq_true rfl, Nat.le_of_ble_eq_true rfl⟩ (g_det ?_)
          refine g_top (show _ = hsT (M 710) c n i by rw [va_up_self]; rfl) ?_
          refine g_istore F (lv2 := [(4, _), (3, _), (0, _), (1, _), (2, _)]) dX9_ticksToNotice_64 (by decide) rfl ?_
          refine g_aload_n F dX9_ticksToNotice_66 rfl 2 rfl ?_
          refine g_callV F (kX9_putBack l (M := va_up (va_up (thM M 0) 714 (cpW (M 714) (M 710) 1804)) 710 (psR (M 710) i))) (cwV 0 F.1.2.2.2.2 gX9_ticksToNotice_X9_putBack rfl rfl rfl (by decide +kernel) ⟨Nat.le_of_ble_eq_true rfl, Nat.le_of_ble_eq_true rfl⟩) r709 (by decide) rfl rfl rfl rfl (Nat.le_of_ble_eq_true rfl) dX9_ticksToNotice_67 ⟨Nat.le_of_ble_eq_true rfl, Nat.le_of_ble_eq_true rfl⟩ (g_det ?_)
          refine g_iload F dX9_ticksToNotice_70 0 rfl ?_
          refine g_if_eq F 79 dX9_ticksToNotice_72 (by decide) (fun h4 => ?_) (fun h4 => ?_)
          · refine g_iconst F (v := -1) dX9_ticksToNotice_79 (by decide) ?_
            exact K _ _ _ _ dX9_ticksToNotice_80 rfl (Or.inr ⟨c, hc, rfl, i, by omega, hyi, hor, congrArg (fun q => some (Value.int q)) (by first | exact (if_pos h4).symm | exact (if_neg h4).symm), by rw [bx_uu]; rfl⟩)
          · refine g_iload_n F dX9_ticksToNotice_75 rfl 1 rfl ?_
            refine g_goto F 80 dX9_ticksToNotice_76 (by decide) ?_
            exact K _ _ _ _ dX9_ticksToNotice_80 rfl (Or.inr ⟨c, hc, rfl, i, by omega, hyi, hor, congrArg (fun q => some (Value.int q)) (by first | exact (if_pos h4).symm | exact (if_neg h4).symm), by rw [bx_uu]; rfl⟩)
        · exact absurd hci (by omega)
      | succ ni ihi =>
        intro i hni hyi
        obtain ⟨t, p, n9, hR⟩ := psR_RW hW i
        refine g_iload_n F dX9_ticksToNotice_32 rfl 0 rfl ?_
        refine g_sipush F (v := 200) dX9_ticksToNotice_33 (by decide +kernel) ?_
        refine g_icmpN_ge F 58 dX9_ticksToNotice_36 (by decide) (i) (200) rfl rfl (by omega) (by omega) (fun hci => ?_) (fun hci => ?_)
        · exact absurd hci (by omega)
        · refine g_aload_n F dX9_ticksToNotice_39 rfl 1 rfl ?_
          refine g_iload_n F dX9_ticksToNotice_40 rfl 2 rfl ?_
          refine g_iload_n F dX9_ticksToNotice_41 rfl 3 rfl ?_
          refine g_callV F (kX9_hasNotice l (M := va_up (va_up (thM M 0) 714 (cpW (M 714) (M 710) 1804)) 710 (psR (M 710) i)) (m := n) (n := (psR (M 710) i 75).toNatClampNeg) hn20 (by rw [va_up_self]; exact (RW_75 (psR_RW hW i)).1) (RW_75 (psR_RW hW i)).2 _) (cwV 2 F.1.2.2.2.2 gX9_ticksToNotice_X9_hasNotice rfl rfl rfl (by decide +kernel) ⟨Nat.le_of_ble_eq_true rfl, Nat.le_of_ble_eq_true rfl⟩) r709 (by decide) rfl rfl rfl rfl (Nat.le_of_ble_eq_true rfl) dX9_ticksToNotice_42 ⟨Nat.le_of_ble_eq_true rfl, Nat.le_of_ble_eq_true rfl⟩ (g_det ?_)
          refine g_top (show _ = hsT (M 710) c n i by rw [va_up_self]; rfl) ?_
          refine g_if_ne F 58 dX9_ticksToNotice_45 (by decide) (fun h3 => ?_) (fun h3 => ?_)
          · have hor : i = 200 ∨ ¬ hsT (M 710) c n i = 0 := Or.inr h3
            refine g_aload_n F dX9_ticksToNotice_58 rfl 1 rfl ?_
            refine g_iload_n F dX9_ticksToNotice_59 rfl 2 rfl ?_
            refine g_iload_n F dX9_ticksToNotice_60 rfl 3 rfl ?_
            refine g_callV F (kX9_hasNotice l (M := va_up (va_up (thM M 0) 714 (cpW (M 714) (M 710) 1804)) 710 (psR (M 710) i)) (m := n) (n := (psR (M 710) i 75).toNatClampNeg) hn20 (by rw [va_up_self]; exact (RW_75 (psR_RW hW i)).1) (RW_75 (psR_RW hW i)).2 _) (cwV 2 F.1.2.2.2.2 gX9_ticksToNotice_X9_hasNotice rfl rfl rfl (by decide +kernel) ⟨Nat.le_of_ble_eq_true rfl, Nat.le_of_ble_eq_true rfl⟩) r709 (by decide) rfl rfl rfl rfl (Nat.le_of_ble_eq_true rfl) dX9_ticksToNotice_61 ⟨Nat.le_of_ble_eq_true rfl, Nat.le_of_ble_eq_true rfl⟩ (g_det ?_)
            refine g_top (show _ = hsT (M 710) c n i by rw [va_up_self]; rfl) ?_
            refine g_istore F (lv2 := [(4, _), (3, _), (0, _), (1, _), (2, _)]) dX9_ticksToNotice_64 (by decide) rfl ?_
            refine g_aload_n F dX9_ticksToNotice_66 rfl 2 rfl ?_
            refine g_callV F (kX9_putBack l (M := va_up (va_up (thM M 0) 714 (cpW (M 714) (M 710) 1804)) 710 (psR (M 710) i))) (cwV 0 F.1.2.2.2.2 gX9_ticksToNotice_X9_putBack rfl rfl rfl (by decide +kernel) ⟨Nat.le_of_ble_eq_true rfl, Nat.le_of_ble_eq_true rfl⟩) r709 (by decide) rfl rfl rfl rfl (Nat.le_of_ble_eq_true rfl) dX9_ticksToNotice_67 ⟨Nat.le_of_ble_eq_true rfl, Nat.le_of_ble_eq_true rfl⟩ (g_det ?_)
            refine g_iload F dX9_ticksToNotice_70 0 rfl ?_
            refine g_if_eq F 79 dX9_ticksToNotice_72 (by decide) (fun h4 => ?_) (fun h4 => ?_)
            · refine g_iconst F (v := -1) dX9_ticksToNotice_79 (by decide) ?_
              exact K _ _ _ _ dX9_ticksToNotice_80 rfl (Or.inr ⟨c, hc, rfl, i, by omega, hyi, hor, congrArg (fun q => some (Value.int q)) (by first | exact (if_pos h4).symm | exact (if_neg h4).symm), by rw [bx_uu]; rfl⟩)
            · refine g_iload_n F dX9_ticksToNotice_75 rfl 1 rfl ?_
              refine g_goto F 80 dX9_ticksToNotice_76 (by decide) ?_
              exact K _ _ _ _ dX9_ticksToNotice_80 rfl (Or.inr ⟨c, hc, rfl, i, by omega, hyi, hor, congrArg (fun q => some (Value.int q)) (by first | exact (if_pos h4).symm | exact (if_neg h4).symm), by rw [bx_uu]; rfl⟩)
          · refine g_aload_n F dX9_ticksToNotice_48 rfl 1 rfl ?_
            refine g_callV F (kX9_tick l (M := va_up (va_up (thM M 0) 714 (cpW (M 714) (M 710) 1804)) 710 (psR (M 710) i)) (t := t) (p := p) (n := n9) (by rw [va_up_self]; exact hR)) (cwV 0 F.1.2.2.2.2 gX9_ticksToNotice_X9_tick rfl rfl rfl (by decide +kernel) ⟨Nat.le_of_ble_eq_true rfl, Nat.le_of_ble_eq_true rfl⟩) r709 (by decide) rfl rfl rfl rfl (Nat.le_of_ble_eq_true rfl) dX9_ticksToNotice_49 ⟨Nat.le_of_ble_eq_true rfl, Nat.le_of_ble_eq_true rfl⟩ (g_det ?_)
            try simp only [bx_uu, va_up_self]
            rw [← tkF_is hR]
            refine g_iinc F (lv2 := [(3, _), (0, _), (1, _), (2, _)]) dX9_ticksToNotice_52 0 rfl (nI_1 _) (by decide) rfl ?_
            refine g_goto F 32 dX9_ticksToNotice_55 (by decide) ?_
            refine g_lv (lv2 := [(3, _), (0, _), (1, _), (2, _)]) [0, 1, 2, 3] rfl ?_
            exact g_is rfl rfl (ihi (i + 1) (by omega) (fun j hj => by by_cases h7 : j = i; (rw [h7]; exact h3); exact hyi j (by omega)))
    refine g_lv (lv2 := [(3, _), (0, _), (1, _), (2, _)]) [0, 2, 3, 1] rfl ?_
    exact g_is (show _ = va_up _ 710 _ from (up_id _ 710).symm) rfl (LP (200 - 0) (0) (by omega) (fun j h => absurd h (by omega)))
  · refine g_aload_n F dX9_ticksToNotice_12 rfl 0 rfl ?_
    refine g_iconst F (v := 1) dX9_ticksToNotice_13 (by decide) ?_
    refine g_callV F (kX9_fails l _) (cwV 1 F.1.2.2.2.2 gX9_ticksToNotice_X9_fails rfl rfl rfl (by decide +kernel) ⟨Nat.le_of_ble_eq_true rfl, Nat.le_of_ble_eq_true rfl⟩) r709 (by decide) rfl rfl rfl rfl (Nat.le_of_ble_eq_true rfl) dX9_ticksToNotice_14 ⟨Nat.le_of_ble_eq_true rfl, Nat.le_of_ble_eq_true rfl⟩ (g_det ?_)
    refine g_mem (thM_2 M 0 _) ?_
    exact K _ _ _ _ dX9_ticksToNotice_17 rfl (Or.inl ⟨h1, rfl, rfl⟩)

abbrev rmX9_nextStoking : Room := { frames := 2, cells := 0, slots := 0, locals := 42 }
theorem iX9_nextStoking_9 : ∀ w ∈ u_ws RX9 TX9 15, w ∈ wsX9_nextStoking := by decide +kernel
set_option maxHeartbeats 200000 in
set_option maxRecDepth 100000 in
theorem kX9_nextStoking (l : Launch) {M : Mm} {T g : Nat → Nat} (hT : ∀ c, c < 8 → 2 ≤ T c ∧ T c ≤ 12 ∧ M 710 (16 + c) = nI (T c)) (hg : ∀ c, c < 8 → g c ≤ 11 ∧ M 710 (24 + c) = nI (g c)) (x y : Int32) : Ct l yX9_nextStoking wsX9_nextStoking rmX9_nextStoking (fun B => [.ref (B + 709), .int x, .int y]) M (fun _ v u => ¬ (0 ≤ x ∧ x ≤ 7) ∧ v = some (.int (0)) ∧ u = thM M 1 ∨ (0 ≤ x ∧ x ≤ 7) ∧ ¬ (0 ≤ y ∧ y ≤ 95) ∧ v = some (.int (0)) ∧ u = thM M 2 ∨ ∃ c b, c < 8 ∧ x = nI c ∧ b < 96 ∧ y = nI b ∧ ∃ i, (∀ j, j < i → g c + j * T c < b) ∧ b ≤ g c + i * T c ∧ v = some (.int (if g c + i * T c < 96 then nI (g c + i * T c) else -1)) ∧ u = thM M 0) := by
  refine Ct.ofI (own := RX9) (by decide +kernel) rfl rfl (fun B => Nat.le_of_ble_eq_true rfl) ?_
  intro pp ee ss mm aa bb me c9 DD ca B Tl AA QQ F K
  show G pp l ee rmX9_nextStoking ss mm aa bb me c9 QQ DD ca B Tl AA 4 0 0 M 0 [(0, .ref (B + 709)), (1, .int x), (2, .int y)] []
  refine g_aload_n F dX9_nextStoking_0 rfl 0 rfl ?_
  refine g_iconst F (v := 0) dX9_nextStoking_1 (by decide) ?_
  refine gp9_thrown F iX9_nextStoking_9 r709 (by decide +kernel) dX9_nextStoking_2 ?_
  refine g_mem (show va_up M 709 (upd (M 709) 0 0) = thM M 0 from rfl) ?_
  refine g_iload_n F dX9_nextStoking_5 rfl 1 rfl ?_
  refine g_callS F (kX9_isChimney l _) (va_cwS 1 F.1.2.2.2.2 gX9_nextStoking_X9_isChimney rfl rfl rfl (by decide +kernel) ⟨Nat.le_of_ble_eq_true rfl, Nat.le_of_ble_eq_true rfl⟩) rfl rfl rfl (Nat.le_of_ble_eq_true rfl) dX9_nextStoking_6 ⟨Nat.le_of_ble_eq_true rfl, Nat.le_of_ble_eq_true rfl⟩ (g_det ?_)
  refine g_ifB_ne F 18 dX9_nextStoking_9 (by decide) (fun h1 => ?_) (fun h1 => ?_)
  · obtain ⟨c, hc_, rfl⟩ := ofk (n := 7) (by decide) h1
    have hc : c < 8 := by omega
    refine g_iload_n F dX9_nextStoking_18 rfl 2 rfl ?_
    refine g_callS F (kX9_isTick l _) (va_cwS 1 F.1.2.2.2.2 gX9_nextStoking_X9_isTick rfl rfl rfl (by decide +kernel) ⟨Nat.le_of_ble_eq_true rfl, Nat.le_of_ble_eq_true rfl⟩) rfl rfl rfl (Nat.le_of_ble_eq_true rfl) dX9_nextStoking_19 ⟨Nat.le_of_ble_eq_true rfl, Nat.le_of_ble_eq_true rfl⟩ (g_det ?_)
    refine g_ifB_ne F 31 dX9_nextStoking_22 (by decide) (fun h2 => ?_) (fun h2 => ?_)
    · obtain ⟨b, hb_, rfl⟩ := ofk (n := 95) (by decide) h2
      have hb : b < 96 := by omega
      refine g_aload_n F dX9_nextStoking_31 rfl 0 rfl ?_
      refine gg9_state F iX9_nextStoking_9 r709 (by decide +kernel) dX9_nextStoking_32 ?_
      refine g_bipush F (v := 24) dX9_nextStoking_35 (by decide +kernel) ?_
      refine g_iload_n F dX9_nextStoking_37 rfl 1 rfl ?_
      refine g_iadd F dX9_nextStoking_38 ?_
      refine g_top (nI_add (24) (c)) ?_
      refine g_iaload (r := 710) F a710 ((24 + c)) rfl (by omega) (by decide) dX9_nextStoking_39 ?_
      refine g_top (y := nI (g c)) (hg c hc).2 ?_
      refine g_istore_n F (lv2 := [(3, _), (0, _), (1, _), (2, _)]) dX9_nextStoking_40 rfl (by decide) rfl ?_
      have LP : ∀ (ni i : Nat), i + ni = 96 → (g c + i * T c ≤ 110 ∧ ∀ j, j < i → g c + j * T c < b) → G pp l ee rmX9_nextStoking ss mm aa bb me c9 QQ DD ca B Tl AA 4 0 0 (thM M 0) 41 [(3, .int (nI (g c + i * T c))), (0, .ref (B + 709)), (1, .int (nI c)), (2, .int (nI b))] [] := by
        intro ni
        induction ni with
        | zero =>
          intro i hni hyi
          refine g_iload_n F dX9_nextStoking_41 rfl 0 rfl ?_
          refine g_iload_n F dX9_nextStoking_42 rfl 3 rfl ?_
          refine g_icmpN_ge F 61 dX9_nextStoking_43 (by decide) ((g c + i * T c)) (b) rfl rfl (by omega) (by omega) (fun h3 => ?_) (fun h3 => ?_)
          · refine g_iload_n F dX9_nextStoking_61 rfl 0 rfl ?_
            refine g_bipush F (v := 96) dX9_nextStoking_62 (by decide +kernel) ?_
            refine g_icmpN_ge F 71 dX9_nextStoking_64 (by decide) ((g c + i * T c)) (96) rfl rfl (by omega) (by omega) (fun h4 => ?_) (fun h4 => ?_)
            · refine g_iconst F (v := -1) dX9_nextStoking_71 (by decide) ?_
              exact K _ _ _ _ dX9_nextStoking_72 rfl (Or.inr (Or.inr ⟨c, b, hc, rfl, hb, rfl, i, hyi.2, by omega, congrArg (fun q => some (Value.int q)) (by first | exact (if_pos (by omega)).symm | exact (if_neg (by omega)).symm), rfl⟩))
            · refine g_iload_n F dX9_nextStoking_67 rfl 0 rfl ?_
              refine g_goto F 72 dX9_nextStoking_68 (by decide) ?_
              exact K _ _ _ _ dX9_nextStoking_72 rfl (Or.inr (Or.inr ⟨c, b, hc, rfl, hb, rfl, i, hyi.2, by omega, congrArg (fun q => some (Value.int q)) (by first | exact (if_pos (by omega)).symm | exact (if_neg (by omega)).symm), rfl⟩))
          · exact absurd h3 (by have h6 := (hT c hc).1; have e6 : i = 96 := (by omega); rw [e6]; omega)
        | succ ni ihi =>
          intro i hni hyi
          refine g_iload_n F dX9_nextStoking_41 rfl 0 rfl ?_
          refine g_iload_n F dX9_nextStoking_42 rfl 3 rfl ?_
          refine g_icmpN_ge F 61 dX9_nextStoking_43 (by decide) ((g c + i * T c)) (b) rfl rfl (by omega) (by omega) (fun h3 => ?_) (fun h3 => ?_)
          · refine g_iload_n F dX9_nextStoking_61 rfl 0 rfl ?_
            refine g_bipush F (v := 96) dX9_nextStoking_62 (by decide +kernel) ?_
            refine g_icmpN_ge F 71 dX9_nextStoking_64 (by decide) ((g c + i * T c)) (96) rfl rfl (by omega) (by omega) (fun h4 => ?_) (fun h4 => ?_)
            · refine g_iconst F (v := -1) dX9_nextStoking_71 (by decide) ?_
              exact K _ _ _ _ dX9_nextStoking_72 rfl (Or.inr (Or.inr ⟨c, b, hc, rfl, hb, rfl, i, hyi.2, by omega, congrArg (fun q => some (Value.int q)) (by first | exact (if_pos (by omega)).symm | exact (if_neg (by omega)).symm), rfl⟩))
            · refine g_iload_n F dX9_nextStoking_67 rfl 0 rfl ?_
              refine g_goto F 72 dX9_nextStoking_68 (by decide) ?_
              exact K _ _ _ _ dX9_nextStoking_72 rfl (Or.inr (Or.inr ⟨c, b, hc, rfl, hb, rfl, i, hyi.2, by omega, congrArg (fun q => some (Value.int q)) (by first | exact (if_pos (by omega)).symm | exact (if_neg (by omega)).symm), rfl⟩))
          · refine g_iload_n F dX9_nextStoking_46 rfl 0 rfl ?_
            refine g_aload_n F dX9_nextStoking_47 rfl 1 rfl ?_
            refine gg9_state F iX9_nextStoking_9 r709 (by decide +kernel) dX9_nextStoking_48 ?_
            refine g_bipush F (v := 16) dX9_nextStoking_51 (by decide +kernel) ?_
            refine g_iload_n F dX9_nextStoking_53 rfl 2 rfl ?_
            refine g_iadd F dX9_nextStoking_54 ?_
            refine g_top (nI_add (16) (c)) ?_
            refine g_iaload (r := 710) F a710 ((16 + c)) rfl (by omega) (by decide) dX9_nextStoking_55 ?_
            refine g_top (y := nI (T c)) (hT c hc).2.2 ?_
            refine g_iadd F dX9_nextStoking_56 ?_
            refine g_top (nI_add ((g c + i * T c)) ((T c))) ?_
            refine g_istore_n F (lv2 := [(3, _), (0, _), (1, _), (2, _)]) dX9_nextStoking_57 rfl (by decide) rfl ?_
            refine g_goto F 41 dX9_nextStoking_58 (by decide) ?_
            refine g_lv (lv2 := [(3, _), (0, _), (1, _), (2, _)]) [0, 1, 2, 3] rfl ?_
            exact g_is rfl (by rw [Nat.succ_mul, Nat.add_assoc]) (ihi (i + 1) (by omega) ⟨by have := (hT c hc).2.1; rw [Nat.succ_mul]; omega, fun j hj => by by_cases h7 : j = i; (rw [h7]; omega); exact hyi.2 j (by omega)⟩)
      refine g_lv (lv2 := [(3, _), (0, _), (1, _), (2, _)]) [0, 1, 2, 3] rfl ?_
      exact g_is rfl (by rw [Nat.zero_mul, Nat.add_zero]; first | done | rfl) (LP (96 - 0) (0) (by omega) ⟨by have := (hg c hc).1; omega, fun j h => absurd h (by omega)⟩)
    · refine g_aload_n F dX9_nextStoking_25 rfl 0 rfl ?_
      refine g_iconst F (v := 2) dX9_nextStoking_26 (by decide) ?_
      refine g_callV F (kX9_fails l _) (cwV 1 F.1.2.2.2.2 gX9_nextStoking_X9_fails rfl rfl rfl (by decide +kernel) ⟨Nat.le_of_ble_eq_true rfl, Nat.le_of_ble_eq_true rfl⟩) r709 (by decide) rfl rfl rfl rfl (Nat.le_of_ble_eq_true rfl) dX9_nextStoking_27 ⟨Nat.le_of_ble_eq_true rfl, Nat.le_of_ble_eq_true rfl⟩ (g_det ?_)
      refine g_mem (thM_2 M 0 _) ?_
      exact K _ _ _ _ dX9_nextStoking_30 rfl (Or.inr (Or.inl ⟨in_k hc_ (by decide), h2, rfl, rfl⟩))
  · refine g_aload_n F dX9_nextStoking_12 rfl 0 rfl ?_
    refine g_iconst F (v := 1) dX9_nextStoking_13 (by decide) ?_
    refine g_callV F (kX9_fails l _) (cwV 1 F.1.2.2.2.2 gX9_nextStoking_X9_fails rfl rfl rfl (by decide +kernel) ⟨Nat.le_of_ble_eq_true rfl, Nat.le_of_ble_eq_true rfl⟩) r709 (by decide) rfl rfl rfl rfl (Nat.le_of_ble_eq_true rfl) dX9_nextStoking_14 ⟨Nat.le_of_ble_eq_true rfl, Nat.le_of_ble_eq_true rfl⟩ (g_det ?_)
    refine g_mem (thM_2 M 0 _) ?_
    exact K _ _ _ _ dX9_nextStoking_17 rfl (Or.inl ⟨h1, rfl, rfl⟩)
