/-- a ridge that can go on -/
def CJ (M : Mm) (r : Nat) : Prop := ∃ t p, t < 96 ∧ 1 ≤ p ∧ p ≤ 8 ∧ CI M r t p
def ptM (M : Mm) (r : Nat) : Mm := ptF M r (M r 9).toNatClampNeg (M r 7).toNatClampNeg
theorem ptM_is {M : Mm} {r t p : Nat} (ht : t < 96) (hp : p ≤ 8) (h : CI M r t p) : ptM M r = ptF M r t p := by
  unfold ptM; rw [h.1, h.2.1, nI_clamp (by omega), nI_clamp (by omega)]
theorem clF_r {M : Mm} {r : Nat} : ∀ c, clF M r c r = M r
  | 0 => rfl
  | c + 1 => (va_up_ne _ _ (show r ≠ chP r c + 1 + 1 by unfold chP; omega)).trans (clF_r c)
theorem ptF_CI {M : Mm} {r t p : Nat} (ht : t < 96) (h : CI M r t p) : ∃ t2, t2 < 96 ∧ CI (ptF M r t p) r t2 p := by
  have h2 : CI (gnF (tiO (trG M r t) r 3) r t p 8) r t p := gnF_CI (h.row ((tiO_r 3).trans trG_r)) 8
  unfold ptF
  generalize gnF (tiO (trG M r t) r 3) r t p 8 = N at h2 ⊢
  obtain ⟨h9, h7, h6, n, hn, h5⟩ := h2
  unfold goF
  by_cases e : t + 1 = 96
  · rw [if_pos e]
    refine ⟨0, by omega, ?_⟩
    unfold CI
    rw [clF_r, va_up_self]
    exact ⟨rfl, h7, h6, n, hn, h5⟩
  · rw [if_neg e]
    refine ⟨t + 1, by omega, ?_⟩
    unfold CI
    rw [va_up_self]
    exact ⟨rfl, h7, h6, n, hn, h5⟩
theorem ptM_CJ {M : Mm} {r : Nat} (h : CJ M r) : CJ (ptM M r) r := by
  obtain ⟨t, p, ht, hp1, hp, hC⟩ := h
  rw [ptM_is ht hp hC]
  obtain ⟨t2, ht2, hC2⟩ := ptF_CI ht hC
  exact ⟨t2, p, ht2, hp1, hp, hC2⟩
def itF (M : Mm) (r : Nat) : Nat → Mm
  | 0 => M
  | i + 1 => ptM (itF M r i) r
theorem itF_CJ {M : Mm} {r : Nat} (h : CJ M r) : ∀ i, CJ (itF M r i) r
  | 0 => h
  | i + 1 => ptM_CJ (itF_CJ h i)

abbrev rmX6_passTicks : Room := { frames := 4, cells := 0, slots := 0, locals := 97 }
theorem iX6_passTicks_6 : ∀ w ∈ u_ws RX6 TX6 10, w ∈ wsX6_passTicks := by decide +kernel
set_option maxHeartbeats 4000000 in
set_option maxRecDepth 100000 in
theorem kX6_passTicks (l : Launch) {M : Mm} {r k : Nat} (hr : isR 6 r) (hk : k < 1000) (hJ : CJ M r) : Ct l yX6_passTicks wsX6_passTicks rmX6_passTicks (fun B => [.ref (B + r), .int (nI k)]) M (fun _ v u => v = some (.int (itF M r k r 5 - M r 5)) ∧ u = itF M r k) := by
  refine Ct.ofI (own := RX6) (by decide +kernel) rfl rfl (fun B => Nat.le_of_ble_eq_true rfl) ?_
  intro pp ee ss mm aa bb me c9 DD ca B Tl AA QQ F K
  show G pp l ee rmX6_passTicks ss mm aa bb me c9 QQ DD ca B Tl AA 4 0 0 M 0 [(0, .ref (B + r)), (1, .int (nI k))] []
  refine g_aload_n F dX6_passTicks_0 rfl 0 rfl ?_
  refine gg6_noticeCount F iX6_passTicks_6 hr (by decide +kernel) dX6_passTicks_1 ?_
  refine g_istore_n F (lv2 := [(2, _), (0, _), (1, _)]) dX6_passTicks_4 rfl (by decide) rfl ?_
  refine g_iconst F (v := 0) dX6_passTicks_5 (by decide) ?_
  refine g_istore_n F (lv2 := [(3, _), (2, _), (0, _), (1, _)]) dX6_passTicks_6 rfl (by decide) rfl ?_
  have LP : ∀ (ni i : Nat), i + ni = k → G pp l ee rmX6_passTicks ss mm aa bb me c9 QQ DD ca B Tl AA 4 0 0 (itF M r i) 7 [(3, .int (nI i)), (0, .ref (B + r)), (1, .int (nI k)), (2, .int (M r 5))] [] := by
    intro ni
    induction ni with
    | zero =>
      intro i hni
      refine g_iload_n F dX6_passTicks_7 rfl 0 rfl ?_
      refine g_iload_n F dX6_passTicks_8 rfl 2 rfl ?_
      refine g_icmpN_ge F 22 dX6_passTicks_9 (by decide) (i) (k) rfl rfl (by omega) (by omega) (fun hci => ?_) (fun hci => ?_)
      · obtain rfl : i = k := by omega
        refine g_aload_n F dX6_passTicks_22 rfl 1 rfl ?_
        refine gg6_noticeCount F iX6_passTicks_6 hr (by decide +kernel) dX6_passTicks_23 ?_
        refine g_iload_n F dX6_passTicks_26 rfl 3 rfl ?_
        refine g_isub F dX6_passTicks_27 ?_
        exact K _ _ _ _ dX6_passTicks_28 rfl ⟨rfl, rfl⟩
      · exact absurd hci (by omega)
    | succ ni ihi =>
      intro i hni
      obtain ⟨t, p, ht, -, hp8, hC⟩ := itF_CJ hJ i
      refine g_iload_n F dX6_passTicks_7 rfl 0 rfl ?_
      refine g_iload_n F dX6_passTicks_8 rfl 2 rfl ?_
      refine g_icmpN_ge F 22 dX6_passTicks_9 (by decide) (i) (k) rfl rfl (by omega) (by omega) (fun hci => ?_) (fun hci => ?_)
      · exact absurd hci (by omega)
      · refine g_aload_n F dX6_passTicks_12 rfl 1 rfl ?_
        refine g_callV F (kX6_passTick l hr ht hp8 hC) (cwV 0 F.1.2.2.2.2 gX6_passTicks_X6_passTick rfl rfl rfl (by decide +kernel) ⟨Nat.le_of_ble_eq_true rfl, Nat.le_of_ble_eq_true rfl⟩) hr (by decide) rfl rfl rfl rfl (Nat.le_of_ble_eq_true rfl) dX6_passTicks_13 ⟨Nat.le_of_ble_eq_true rfl, Nat.le_of_ble_eq_true rfl⟩ (g_det ?_)
        rw [← ptM_is ht hp8 hC]
        refine g_iinc F (lv2 := [(3, _), (0, _), (1, _), (2, _)]) dX6_passTicks_16 0 rfl (nI_1 _) (by decide) rfl ?_
        refine g_goto F 7 dX6_passTicks_19 (by decide) ?_
        refine g_lv (lv2 := [(3, _), (0, _), (1, _), (2, _)]) [0, 1, 2, 3] rfl ?_
        exact g_is rfl rfl (ihi (i + 1) (by omega))
  refine g_lv (lv2 := [(3, _), (0, _), (1, _), (2, _)]) [0, 2, 3, 1] rfl ?_
  exact g_is rfl rfl (LP (k - 0) (0) (by omega))


def cpI (M : Mm) (r q a b : Nat) : Mm := fun x => if r + a ≤ x ∧ x < r + b then M (q + (x - r)) else M x
theorem cpI_0 (M : Mm) (r q a : Nat) : cpI M r q a a = M := by
  funext x; unfold cpI; rw [if_neg (by omega)]
theorem cpI_in {M : Mm} {r q a b x : Nat} (h : r + a ≤ x ∧ x < r + b) : cpI M r q a b x = M (q + (x - r)) := if_pos h
theorem cpI_out {M : Mm} {r q a b x : Nat} (h : ¬ (r + a ≤ x ∧ x < r + b)) : cpI M r q a b x = M x := if_neg h
theorem nf_1 {r : Nat} (h : isR 1 r) : nf r = 0 := by simp only [nf, h.2]
/-- one more chimney is copied -/
theorem cp_ch {M : Mm} {r q i : Nat} (hr : isR 6 r) (hi : i < 8) (hd : r + 70 ≤ q ∨ q + 70 ≤ r) : ∀ x, x < 715 → ∀ j, lo x ≤ j → j < nf x → cpCh (cpI M r q 7 (7 + 5 * i)) (chP r i) (chP q i) x j = cpI M r q 7 (7 + 5 * (i + 1)) x j := by
  have hch : isR 0 (chP r i) := el12 (sb6 hr).1 hi
  intro x hx j _ hj
  unfold cpCh
  by_cases h1 : x = chP r i + 3 + 1
  · subst h1
    rw [va_up_self, cpI_out (by unfold chP; omega), cpI_in (by unfold chP; omega)]
    congr 1; unfold chP; omega
  · rw [va_up_ne _ _ h1]
    by_cases h2 : x = chP r i + 1 + 1
    · subst h2
      rw [va_up_self, cpI_out (by unfold chP; omega), cpI_in (by unfold chP; omega)]
      congr 1; unfold chP; omega
    · rw [va_up_ne _ _ h2]
      by_cases h3 : x = chP r i
      · subst h3
        rw [va_up_self, cpI_out (by unfold chP; omega), cpI_in (by unfold chP; omega)]
        congr 1; unfold chP; omega
      · rw [va_up_ne _ _ h3]
        by_cases h4 : x = chP r i + 1
        · rw [h4, nf_1 (sb0 hch).1] at hj; exact absurd hj (by omega)
        · by_cases h5 : x = chP r i + 3
          · rw [h5, nf_1 (sb0 hch).2] at hj; exact absurd hj (by omega)
          · by_cases h6 : r + 7 ≤ x ∧ x < r + (7 + 5 * i)
            · rw [cpI_in h6, cpI_in (by omega)]
            · rw [cpI_out h6, cpI_out (by unfold chP at h1 h2 h3 h4 h5; omega)]
theorem cp_ob {M : Mm} {r q i : Nat} (hi : i < 3) (hd : r + 70 ≤ q ∨ q + 70 ≤ r) : va_up (cpI M r q 7 (47 + i)) (obP r i) (cpI M r q 7 (47 + i) (obP q i)) = cpI M r q 7 (47 + (i + 1)) := by
  funext x
  by_cases h1 : x = obP r i
  · subst h1
    rw [va_up_self, cpI_out (by unfold obP; omega), cpI_in (by unfold obP; omega)]
    congr 1; unfold obP; omega
  · rw [va_up_ne _ _ h1]
    by_cases h6 : r + 7 ≤ x ∧ x < r + (47 + i)
    · rw [cpI_in h6, cpI_in (by omega)]
    · rw [cpI_out h6, cpI_out (by unfold obP at h1; omega)]
theorem cp_no {M : Mm} {r q i : Nat} (hi : i < 20) (hd : r + 70 ≤ q ∨ q + 70 ≤ r) : va_up (cpI M r q 7 (50 + i)) (noP r i) (cpI M r q 7 (50 + i) (noP q i)) = cpI M r q 7 (50 + (i + 1)) := by
  funext x
  by_cases h1 : x = noP r i
  · subst h1
    rw [va_up_self, cpI_out (by unfold noP; omega), cpI_in (by unfold noP; omega)]
    congr 1; unfold noP; omega
  · rw [va_up_ne _ _ h1]
    by_cases h6 : r + 7 ≤ x ∧ x < r + (50 + i)
    · rw [cpI_in h6, cpI_in (by omega)]
    · rw [cpI_out h6, cpI_out (by unfold noP at h1; omega)]
/-- the whole ridge q is copied to the place r -/
def cpR (M : Mm) (r q : Nat) : Mm := cpI M r q 0 70
theorem nf_0 {r k : Nat} (h : isR k r) (hk : k = 12 ∨ k = 13 ∨ k = 14 ∨ k = 1) : nf r = 0 := by
  rcases hk with rfl | rfl | rfl | rfl <;> simp only [nf, h.2]
def hdR (f g : Nat → Int32) : Nat → Int32 := upd (upd (upd (upd (upd f 5 (g 5)) 6 (g 6)) 7 (g 7)) 8 (g 8)) 9 (g 9)
theorem cp_all {M : Mm} {r q : Nat} (hr : isR 6 r) (hd : r + 70 ≤ q ∨ q + 70 ≤ r) : ∀ x, x < 715 → ∀ j, lo x ≤ j → j < nf x → va_up (va_up (va_up (cpI M r q 7 70) (r + 4) (M (q + 4))) (r + 5 + 1) (M (q + 5 + 1))) r (hdR (M r) (M q)) x j = cpR M r q x j := by
  intro x hx j hl hj
  unfold cpR
  by_cases h1 : x = r
  · subst h1
    have hn : nf x = 10 := by simp only [nf, hr.2]
    have hl9 : lo x = 5 := by simp only [lo, hr.2]
    rw [hn] at hj; rw [hl9] at hl
    rw [va_up_self, cpI_in (by omega), Nat.sub_self, Nat.add_zero]
    rcases (show j = 5 ∨ j = 6 ∨ j = 7 ∨ j = 8 ∨ j = 9 by omega) with rfl | rfl | rfl | rfl | rfl <;> rfl
  · rw [va_up_ne _ _ h1]
    by_cases h2 : x = r + 5 + 1
    · subst h2
      rw [va_up_self, cpI_in (by omega), show q + (r + 5 + 1 - r) = q + 5 + 1 by omega]
    · rw [va_up_ne _ _ h2]
      by_cases h3 : x = r + 4
      · subst h3
        rw [va_up_self, cpI_in (by omega), show q + (r + 4 - r) = q + 4 by omega]
      · rw [va_up_ne _ _ h3]
        by_cases h4 : r + 7 ≤ x ∧ x < r + 70
        · rw [cpI_in h4, cpI_in (by omega)]
        · by_cases h5 : r + 0 ≤ x ∧ x < r + 70
          · have : nf x = 0 := by
              rcases (show x = r + 1 ∨ x = r + 2 ∨ x = r + 3 ∨ x = r + 5 by omega) with rfl | rfl | rfl | rfl
              · exact nf_0 (sb6 hr).1 (by decide)
              · exact nf_0 (sb6 hr).2.1 (by decide)
              · exact nf_0 (sb6 hr).2.2.1 (by decide)
              · exact nf_0 (sb6 hr).2.2.2.2 (by decide)
            rw [this] at hj; exact absurd hj (by omega)
          · rw [cpI_out h4, cpI_out h5]

abbrev rmX6_copyFrom : Room := { frames := 3, cells := 0, slots := 0, locals := 102 }
theorem iX6_copyFrom_6 : ∀ w ∈ u_ws RX6 TX6 10, w ∈ wsX6_copyFrom := by decide +kernel
set_option maxHeartbeats 4000000 in
set_option maxRecDepth 100000 in
theorem kX6_copyFrom (l : Launch) {M : Mm} {r q : Nat} (hr : isR 6 r) (hq : isR 6 q) (hd : r + 70 ≤ q ∨ q + 70 ≤ r) : Ct l yX6_copyFrom wsX6_copyFrom rmX6_copyFrom (fun B => [.ref (B + r), .ref (B + q)]) M (fun _ v u => v = none ∧ u = cpR M r q) := by
  refine Ct.ofV (own := RX6) (by decide +kernel) rfl rfl (fun B => Nat.le_of_ble_eq_true rfl) ?_
  intro pp ee ss mm aa bb me c9 DD ca B Tl AA QQ F K
  show G pp l ee rmX6_copyFrom ss mm aa bb me c9 QQ DD ca B Tl AA 3 0 0 M 0 [(0, .ref (B + r)), (1, .ref (B + q))] []
  have hqr : q ≠ r := by omega
  have hq5 : q ≠ r + 5 + 1 := by omega
  have hq4 : q ≠ r + 4 := by omega
  have hr5 : r ≠ r + 5 + 1 := by omega
  have hr4 : r ≠ r + 4 := by omega
  have hcq : cpI M r q 7 70 q = M q := cpI_out (by omega)
  have hcr : cpI M r q 7 70 r = M r := cpI_out (by omega)
  refine g_iconst F (v := 0) dX6_copyFrom_0 (by decide) ?_
  refine g_istore_n F (lv2 := [(2, _), (0, _), (1, _)]) dX6_copyFrom_1 rfl (by decide) rfl ?_
  have LP : ∀ (ni i : Nat), i + ni = 8 → G pp l ee rmX6_copyFrom ss mm aa bb me c9 QQ DD ca B Tl AA 3 0 0 (cpI M r q 7 (7 + 5 * i)) 2 [(2, .int (nI i)), (0, .ref (B + r)), (1, .ref (B + q))] [] := by
    intro ni
    induction ni with
    | zero =>
      intro i hni
      refine g_iload_n F dX6_copyFrom_2 rfl 0 rfl ?_
      refine g_bipush F (v := 8) dX6_copyFrom_3 (by decide +kernel) ?_
      refine g_icmpN_ge F 29 dX6_copyFrom_5 (by decide) (i) (8) rfl rfl (by omega) (by omega) (fun hci => ?_) (fun hci => ?_)
      · obtain rfl : i = 8 := by omega
        refine g_iconst F (v := 0) dX6_copyFrom_29 (by decide) ?_
        refine g_istore_n F (lv2 := [(2, _), (0, _), (1, _)]) dX6_copyFrom_30 rfl (by decide) rfl ?_
        have LP : ∀ (ni i : Nat), i + ni = 3 → G pp l ee rmX6_copyFrom ss mm aa bb me c9 QQ DD ca B Tl AA 3 0 0 (cpI M r q 7 (47 + i)) 31 [(2, .int (nI i)), (0, .ref (B + r)), (1, .ref (B + q))] [] := by
          intro ni
          induction ni with
          | zero =>
            intro i hni
            refine g_iload_n F dX6_copyFrom_31 rfl 0 rfl ?_
            refine g_iconst F (v := 3) dX6_copyFrom_32 (by decide) ?_
            refine g_icmpN_ge F 57 dX6_copyFrom_33 (by decide) (i) (3) rfl rfl (by omega) (by omega) (fun hci => ?_) (fun hci => ?_)
            · obtain rfl : i = 3 := by omega
              refine g_iconst F (v := 0) dX6_copyFrom_57 (by decide) ?_
              refine g_istore_n F (lv2 := [(2, _), (0, _), (1, _)]) dX6_copyFrom_58 rfl (by decide) rfl ?_
              have LP : ∀ (ni i : Nat), i + ni = 20 → G pp l ee rmX6_copyFrom ss mm aa bb me c9 QQ DD ca B Tl AA 3 0 0 (cpI M r q 7 (50 + i)) 59 [(2, .int (nI i)), (0, .ref (B + r)), (1, .ref (B + q))] [] := by
                intro ni
                induction ni with
                | zero =>
                  intro i hni
                  refine g_iload_n F dX6_copyFrom_59 rfl 0 rfl ?_
                  refine g_bipush F (v := 20) dX6_copyFrom_60 (by decide +kernel) ?_
                  refine g_icmpN_ge F 86 dX6_copyFrom_62 (by decide) (i) (20) rfl rfl (by omega) (by omega) (fun hci => ?_) (fun hci => ?_)
                  · obtain rfl : i = 20 := by omega
                    refine g_aload_n F dX6_copyFrom_86 rfl 2 rfl ?_
                    refine gg6_greys F iX6_copyFrom_6 hq (by decide +kernel) dX6_copyFrom_87 ?_
                    refine g_iconst F (v := 0) dX6_copyFrom_90 (by decide) ?_
                    refine g_aload_n F dX6_copyFrom_91 rfl 1 rfl ?_
                    refine gg6_greys F iX6_copyFrom_6 hr (by decide +kernel) dX6_copyFrom_92 ?_
                    refine g_iconst F (v := 0) dX6_copyFrom_95 (by decide) ?_
                    refine g_bipush F (v := 24) dX6_copyFrom_96 (by decide +kernel) ?_
                    refine g_copy F (sb6 hq).2.2.2.1 (sb6 hr).2.2.2.1 (by decide) rfl (by decide +kernel) (by decide +kernel) (by decide +kernel) (by decide +kernel) (Nat.le_of_ble_eq_true rfl) (by decide +kernel) dX6_copyFrom_98 ?_
                    refine g_mem (congrArg (va_up _ (r + 4)) (cpI_out (by omega) : _ = M (q + 4))) ?_
                    refine g_aload_n F dX6_copyFrom_101 rfl 1 rfl ?_
                    refine gg6_greysThen F iX6_copyFrom_6 hr (by decide +kernel) dX6_copyFrom_102 ?_
                    refine g_aload_n F dX6_copyFrom_105 rfl 2 rfl ?_
                    refine gg6_greysThen F iX6_copyFrom_6 hq (by decide +kernel) dX6_copyFrom_106 ?_
                    refine g_callV F (kX1_copyFrom l (sb6 hr).2.2.2.2 (sb6 hq).2.2.2.2) (cwV 1 F.1.2.2.2.2 gX6_copyFrom_X1_copyFrom rfl rfl rfl (by decide +kernel) ⟨Nat.le_of_ble_eq_true rfl, Nat.le_of_ble_eq_true rfl⟩) (sb6 hr).2.2.2.2 (by decide) rfl rfl rfl rfl (Nat.le_of_ble_eq_true rfl) dX6_copyFrom_109 ⟨Nat.le_of_ble_eq_true rfl, Nat.le_of_ble_eq_true rfl⟩ (g_det ?_)
                    refine g_mem (congrArg (va_up _ (r + 5 + 1)) ((va_up_ne _ _ (by omega)).trans (cpI_out (by omega)) : _ = M (q + 5 + 1))) ?_
                    refine g_aload_n F dX6_copyFrom_112 rfl 1 rfl ?_
                    refine g_aload_n F dX6_copyFrom_113 rfl 2 rfl ?_
                    refine gg6_noticeCount F iX6_copyFrom_6 hq (by decide +kernel) dX6_copyFrom_114 ?_
                    refine g_top (y := M q 5) (by simp only [bx_uu, va_up_self, va_up_ne _ _ hqr, va_up_ne _ _ hq5, va_up_ne _ _ hq4, hcq]) ?_
                    refine gp6_noticeCount F iX6_copyFrom_6 hr (by decide +kernel) dX6_copyFrom_117 ?_
                    try simp only [bx_uu, va_up_self, va_up_ne _ _ hqr, va_up_ne _ _ hq5, va_up_ne _ _ hq4, va_up_ne _ _ hr5, va_up_ne _ _ hr4, hcq, hcr]
                    refine g_aload_n F dX6_copyFrom_120 rfl 1 rfl ?_
                    refine g_aload_n F dX6_copyFrom_121 rfl 2 rfl ?_
                    refine gg6_limit F iX6_copyFrom_6 hq (by decide +kernel) dX6_copyFrom_122 ?_
                    refine g_top (y := M q 6) (by simp only [bx_uu, va_up_self, va_up_ne _ _ hqr, va_up_ne _ _ hq5, va_up_ne _ _ hq4, hcq]) ?_
                    refine gp6_limit F iX6_copyFrom_6 hr (by decide +kernel) dX6_copyFrom_125 ?_
                    try simp only [bx_uu, va_up_self, va_up_ne _ _ hqr, va_up_ne _ _ hq5, va_up_ne _ _ hq4, va_up_ne _ _ hr5, va_up_ne _ _ hr4, hcq, hcr]
                    refine g_aload_n F dX6_copyFrom_128 rfl 1 rfl ?_
                    refine g_aload_n F dX6_copyFrom_129 rfl 2 rfl ?_
                    refine gg6_patience F iX6_copyFrom_6 hq (by decide +kernel) dX6_copyFrom_130 ?_
                    refine g_top (y := M q 7) (by simp only [bx_uu, va_up_self, va_up_ne _ _ hqr, va_up_ne _ _ hq5, va_up_ne _ _ hq4, hcq]) ?_
                    refine gp6_patience F iX6_copyFrom_6 hr (by decide +kernel) dX6_copyFrom_133 ?_
                    try simp only [bx_uu, va_up_self, va_up_ne _ _ hqr, va_up_ne _ _ hq5, va_up_ne _ _ hq4, va_up_ne _ _ hr5, va_up_ne _ _ hr4, hcq, hcr]
                    refine g_aload_n F dX6_copyFrom_136 rfl 1 rfl ?_
                    refine g_aload_n F dX6_copyFrom_137 rfl 2 rfl ?_
                    refine gg6_day F iX6_copyFrom_6 hq (by decide +kernel) dX6_copyFrom_138 ?_
                    refine g_top (y := M q 8) (by simp only [bx_uu, va_up_self, va_up_ne _ _ hqr, va_up_ne _ _ hq5, va_up_ne _ _ hq4, hcq]) ?_
                    refine gp6_day F iX6_copyFrom_6 hr (by decide +kernel) dX6_copyFrom_141 ?_
                    try simp only [bx_uu, va_up_self, va_up_ne _ _ hqr, va_up_ne _ _ hq5, va_up_ne _ _ hq4, va_up_ne _ _ hr5, va_up_ne _ _ hr4, hcq, hcr]
                    refine g_aload_n F dX6_copyFrom_144 rfl 1 rfl ?_
                    refine g_aload_n F dX6_copyFrom_145 rfl 2 rfl ?_
                    refine gg6_tick F iX6_copyFrom_6 hq (by decide +kernel) dX6_copyFrom_146 ?_
                    refine g_top (y := M q 9) (by simp only [bx_uu, va_up_self, va_up_ne _ _ hqr, va_up_ne _ _ hq5, va_up_ne _ _ hq4, hcq]) ?_
                    refine gp6_tick F iX6_copyFrom_6 hr (by decide +kernel) dX6_copyFrom_149 ?_
                    try simp only [bx_uu, va_up_self, va_up_ne _ _ hqr, va_up_ne _ _ hq5, va_up_ne _ _ hq4, va_up_ne _ _ hr5, va_up_ne _ _ hr4, hcq, hcr]
                    refine g_eqv (cp_all hr hd) ?_
                    exact K _ _ _ dX6_copyFrom_152 ⟨rfl, rfl⟩
                  · exact absurd hci (by omega)
                | succ ni ihi =>
                  intro i hni
                  refine g_iload_n F dX6_copyFrom_59 rfl 0 rfl ?_
                  refine g_bipush F (v := 20) dX6_copyFrom_60 (by decide +kernel) ?_
                  refine g_icmpN_ge F 86 dX6_copyFrom_62 (by decide) (i) (20) rfl rfl (by omega) (by omega) (fun hci => ?_) (fun hci => ?_)
                  · exact absurd hci (by omega)
                  · refine g_aload_n F dX6_copyFrom_65 rfl 1 rfl ?_
                    refine gg6_notes F iX6_copyFrom_6 hr (by decide +kernel) dX6_copyFrom_66 ?_
                    refine g_iload_n F dX6_copyFrom_69 rfl 0 rfl ?_
                    refine g_aaload13 F (sb6 hr).2.2.1 (i) rfl (by omega) dX6_copyFrom_70 ?_
                    refine g_aload_n F dX6_copyFrom_71 rfl 2 rfl ?_
                    refine gg6_notes F iX6_copyFrom_6 hq (by decide +kernel) dX6_copyFrom_72 ?_
                    refine g_iload_n F dX6_copyFrom_75 rfl 0 rfl ?_
                    refine g_aaload13 F (sb6 hq).2.2.1 (i) rfl (by omega) dX6_copyFrom_76 ?_
                    refine g_callV F (kX3_copyFrom l (el13 (sb6 hr).2.2.1 (by omega)) (el13 (sb6 hq).2.2.1 (by omega)) (by omega)) (cwV 1 F.1.2.2.2.2 gX6_copyFrom_X3_copyFrom rfl rfl rfl (by decide +kernel) ⟨Nat.le_of_ble_eq_true rfl, Nat.le_of_ble_eq_true rfl⟩) (el13 (sb6 hr).2.2.1 (by omega)) (by decide) rfl rfl rfl rfl (Nat.le_of_ble_eq_true rfl) dX6_copyFrom_77 ⟨Nat.le_of_ble_eq_true rfl, Nat.le_of_ble_eq_true rfl⟩ (g_det ?_)
                    refine g_mem (cp_no (by omega) hd) ?_
                    refine g_iinc F (lv2 := [(2, _), (0, _), (1, _)]) dX6_copyFrom_80 0 rfl (nI_1 _) (by decide) rfl ?_
                    refine g_goto F 59 dX6_copyFrom_83 (by decide) ?_
                    refine g_lv (lv2 := [(2, _), (0, _), (1, _)]) [0, 1, 2] rfl ?_
                    exact g_is rfl rfl (ihi (i + 1) (by omega))
              refine g_lv (lv2 := [(2, _), (0, _), (1, _)]) [0, 1, 2] rfl ?_
              exact g_is rfl rfl (LP (20 - 0) (0) (by omega))
            · exact absurd hci (by omega)
          | succ ni ihi =>
            intro i hni
            refine g_iload_n F dX6_copyFrom_31 rfl 0 rfl ?_
            refine g_iconst F (v := 3) dX6_copyFrom_32 (by decide) ?_
            refine g_icmpN_ge F 57 dX6_copyFrom_33 (by decide) (i) (3) rfl rfl (by omega) (by omega) (fun hci => ?_) (fun hci => ?_)
            · exact absurd hci (by omega)
            · refine g_aload_n F dX6_copyFrom_36 rfl 1 rfl ?_
              refine gg6_observers F iX6_copyFrom_6 hr (by decide +kernel) dX6_copyFrom_37 ?_
              refine g_iload_n F dX6_copyFrom_40 rfl 0 rfl ?_
              refine g_aaload14 F (sb6 hr).2.1 (i) rfl (by omega) dX6_copyFrom_41 ?_
              refine g_aload_n F dX6_copyFrom_42 rfl 2 rfl ?_
              refine gg6_observers F iX6_copyFrom_6 hq (by decide +kernel) dX6_copyFrom_43 ?_
              refine g_iload_n F dX6_copyFrom_46 rfl 0 rfl ?_
              refine g_aaload14 F (sb6 hq).2.1 (i) rfl (by omega) dX6_copyFrom_47 ?_
              refine g_callV F (kX4_copyFrom l (el14 (sb6 hr).2.1 (by omega)) (el14 (sb6 hq).2.1 (by omega)) (by omega)) (cwV 1 F.1.2.2.2.2 gX6_copyFrom_X4_copyFrom rfl rfl rfl (by decide +kernel) ⟨Nat.le_of_ble_eq_true rfl, Nat.le_of_ble_eq_true rfl⟩) (el14 (sb6 hr).2.1 (by omega)) (by decide) rfl rfl rfl rfl (Nat.le_of_ble_eq_true rfl) dX6_copyFrom_48 ⟨Nat.le_of_ble_eq_true rfl, Nat.le_of_ble_eq_true rfl⟩ (g_det ?_)
              refine g_mem (cp_ob (by omega) hd) ?_
              refine g_iinc F (lv2 := [(2, _), (0, _), (1, _)]) dX6_copyFrom_51 0 rfl (nI_1 _) (by decide) rfl ?_
              refine g_goto F 31 dX6_copyFrom_54 (by decide) ?_
              refine g_lv (lv2 := [(2, _), (0, _), (1, _)]) [0, 1, 2] rfl ?_
              exact g_is rfl rfl (ihi (i + 1) (by omega))
        refine g_lv (lv2 := [(2, _), (0, _), (1, _)]) [0, 1, 2] rfl ?_
        exact g_is rfl rfl (LP (3 - 0) (0) (by omega))
      · exact absurd hci (by omega)
    | succ ni ihi =>
      intro i hni
      refine g_iload_n F dX6_copyFrom_2 rfl 0 rfl ?_
      refine g_bipush F (v := 8) dX6_copyFrom_3 (by decide +kernel) ?_
      refine g_icmpN_ge F 29 dX6_copyFrom_5 (by decide) (i) (8) rfl rfl (by omega) (by omega) (fun hci => ?_) (fun hci => ?_)
      · exact absurd hci (by omega)
      · refine g_aload_n F dX6_copyFrom_8 rfl 1 rfl ?_
        refine gg6_chimneys F iX6_copyFrom_6 hr (by decide +kernel) dX6_copyFrom_9 ?_
        refine g_iload_n F dX6_copyFrom_12 rfl 0 rfl ?_
        refine g_aaload12 F (sb6 hr).1 (i) rfl (by omega) dX6_copyFrom_13 ?_
        refine g_aload_n F dX6_copyFrom_14 rfl 2 rfl ?_
        refine gg6_chimneys F iX6_copyFrom_6 hq (by decide +kernel) dX6_copyFrom_15 ?_
        refine g_iload_n F dX6_copyFrom_18 rfl 0 rfl ?_
        refine g_aaload12 F (sb6 hq).1 (i) rfl (by omega) dX6_copyFrom_19 ?_
        refine g_callV F (kX0_copyFrom l (el12 (sb6 hr).1 (by omega)) (el12 (sb6 hq).1 (by omega)) (by omega)) (cwV 1 F.1.2.2.2.2 gX6_copyFrom_X0_copyFrom rfl rfl rfl (by decide +kernel) ⟨Nat.le_of_ble_eq_true rfl, Nat.le_of_ble_eq_true rfl⟩) (el12 (sb6 hr).1 (by omega)) (by decide) rfl rfl rfl rfl (Nat.le_of_ble_eq_true rfl) dX6_copyFrom_20 ⟨Nat.le_of_ble_eq_true rfl, Nat.le_of_ble_eq_true rfl⟩ (g_det ?_)
        refine g_eqv (cp_ch hr (by omega) hd) ?_
        refine g_iinc F (lv2 := [(2, _), (0, _), (1, _)]) dX6_copyFrom_23 0 rfl (nI_1 _) (by decide) rfl ?_
        refine g_goto F 2 dX6_copyFrom_26 (by decide) ?_
        refine g_lv (lv2 := [(2, _), (0, _), (1, _)]) [0, 1, 2] rfl ?_
        exact g_is rfl rfl (ihi (i + 1) (by omega))
  refine g_lv (lv2 := [(2, _), (0, _), (1, _)]) [0, 1, 2] rfl ?_
  exact g_is (cpI_0 _ _ _ _).symm rfl (LP (8 - 0) (0) (by omega))
