abbrev rmX9_gets : Room := { frames := 1, cells := 0, slots := 0, locals := 24 }
theorem iX9_gets_9 : ∀ w ∈ u_ws RX9 TX9 15, w ∈ wsX9_gets := by decide +kernel
set_option maxHeartbeats 300000 in
set_option maxRecDepth 100000 in
theorem kX9_gets (l : Launch) {M : Mm} {t p n c : Nat} (hc : c < 8) (ht : t < 96) (h9t : M 710 74 = nI t) (hp1 : p ≤ t + 1) (hp : M 710 72 = nI p) (hn : M 710 75 = nI n) (hn20 : n < 20) : Ct l yX9_gets wsX9_gets rmX9_gets (fun B => [.ref (B + 709), .int (nI c)]) M (fun _ v u => v = none ∧ u = va_up M 710 (gtR (M 710) t p n c)) := by
  refine Ct.ofV (own := RX9) (by decide +kernel) rfl rfl (fun B => Nat.le_of_ble_eq_true rfl) ?_
  intro pp ee ss mm aa bb me c9 DD ca B Tl AA QQ F K
  show G pp l ee rmX9_gets ss mm aa bb me c9 QQ DD ca B Tl AA 5 0 0 M 0 [(0, .ref (B + 709)), (1, .int (nI c))] []
  refine g_aload_n F dX9_gets_0 rfl 0 rfl ?_
  refine gg9_state F iX9_gets_9 r709 (by decide +kernel) dX9_gets_1 ?_
  refine g_bipush F (v := 75) dX9_gets_4 (by decide +kernel) ?_
  refine g_iaload (r := 710) F a710 (75) rfl (by omega) (by decide) dX9_gets_6 ?_
  refine g_top hn ?_
  refine g_istore_n F (lv2 := [(2, _), (0, _), (1, _)]) dX9_gets_7 rfl (by decide) rfl ?_
  refine g_iconst F (v := 1) dX9_gets_8 (by decide) ?_
  refine g_istore_n F (lv2 := [(3, _), (2, _), (0, _), (1, _)]) dX9_gets_9 rfl (by decide) rfl ?_
  refine g_iconst F (v := 0) dX9_gets_10 (by decide) ?_
  refine g_istore F (lv2 := [(4, _), (3, _), (2, _), (0, _), (1, _)]) dX9_gets_11 (by decide) rfl ?_
  have LP : ∀ (ni i : Nat), i + ni = n → G pp l ee rmX9_gets ss mm aa bb me c9 QQ DD ca B Tl AA 5 0 0 (M) 13 [(4, .int (nI i)), (0, .ref (B + 709)), (1, .int (nI c)), (2, .int (nI n)), (3, .int (gtS (M 710) c i))] [] := by
    intro ni
    induction ni with
    | zero =>
      intro i hni
      refine g_iload F dX9_gets_13 0 rfl ?_
      refine g_iload_n F dX9_gets_15 rfl 3 rfl ?_
      refine g_icmpN_ge F 62 dX9_gets_16 (by decide) (i) (n) rfl rfl (by omega) (by omega) (fun hci => ?_) (fun hci => ?_)
      · obtain rfl : n = i := by omega
        refine g_aload_n F dX9_gets_62 rfl 1 rfl ?_
        refine gg9_state F iX9_gets_9 r709 (by decide +kernel) dX9_gets_63 ?_
        refine g_bipush F (v := 92) dX9_gets_66 (by decide +kernel) ?_
        refine g_iload_n F dX9_gets_68 rfl 3 rfl ?_
        refine g_iadd F dX9_gets_69 ?_
        refine g_top (nI_add (92) (n)) ?_
        refine g_iload_n F dX9_gets_70 rfl 2 rfl ?_
        refine g_iastore (r := 710) F a710 ((92 + n)) rfl (by omega) (by decide) dX9_gets_71 ?_
        try simp only [bx_uu, va_up_self]
        refine g_aload_n F dX9_gets_72 rfl 1 rfl ?_
        refine gg9_state F iX9_gets_9 r709 (by decide +kernel) dX9_gets_73 ?_
        refine g_bipush F (v := 112) dX9_gets_76 (by decide +kernel) ?_
        refine g_iload_n F dX9_gets_78 rfl 3 rfl ?_
        refine g_iadd F dX9_gets_79 ?_
        refine g_top (nI_add (112) (n)) ?_
        refine g_bipush F (v := 10) dX9_gets_80 (by decide +kernel) ?_
        refine g_iload_n F dX9_gets_82 rfl 4 rfl ?_
        refine g_imul F dX9_gets_83 ?_
        refine g_iastore (r := 710) F a710 ((112 + n)) rfl (by omega) (by decide) dX9_gets_84 ?_
        try simp only [bx_uu, va_up_self]
        refine g_aload_n F dX9_gets_85 rfl 1 rfl ?_
        refine gg9_state F iX9_gets_9 r709 (by decide +kernel) dX9_gets_86 ?_
        refine g_sipush F (v := 132) dX9_gets_89 (by decide +kernel) ?_
        refine g_iload_n F dX9_gets_92 rfl 3 rfl ?_
        refine g_iadd F dX9_gets_93 ?_
        refine g_top (nI_add (132) (n)) ?_
        refine g_iconst F (v := 0) dX9_gets_94 (by decide) ?_
        refine g_iastore (r := 710) F a710 ((132 + n)) rfl (by omega) (by decide) dX9_gets_95 ?_
        try simp only [bx_uu, va_up_self]
        refine g_aload_n F dX9_gets_96 rfl 1 rfl ?_
        refine gg9_state F iX9_gets_9 r709 (by decide +kernel) dX9_gets_97 ?_
        refine g_sipush F (v := 152) dX9_gets_100 (by decide +kernel) ?_
        refine g_iload_n F dX9_gets_103 rfl 3 rfl ?_
        refine g_iadd F dX9_gets_104 ?_
        refine g_top (nI_add (152) (n)) ?_
        refine g_aload_n F dX9_gets_105 rfl 1 rfl ?_
        refine g_iload_n F dX9_gets_106 rfl 2 rfl ?_
        refine g_callV F (kX9_whyFor l (M := (va_up M 710 (gt3 (M 710) n c))) (t := t) (p := p) (c := c) (by omega) ht (by rw [va_up_self]; unfold gt3; rw [upd_ne _ _ (by omega), upd_ne _ _ (by omega), upd_ne _ _ (by omega)]; exact h9t) hp1 (by rw [va_up_self]; unfold gt3; rw [upd_ne _ _ (by omega), upd_ne _ _ (by omega), upd_ne _ _ (by omega)]; exact hp)) (cwV 1 F.1.2.2.2.2 gX9_gets_X9_whyFor rfl rfl rfl (by decide +kernel) ⟨Nat.le_of_ble_eq_true rfl, Nat.le_of_ble_eq_true rfl⟩) r709 (by decide) rfl rfl rfl rfl (Nat.le_of_ble_eq_true rfl) dX9_gets_107 ⟨Nat.le_of_ble_eq_true rfl, Nat.le_of_ble_eq_true rfl⟩ (g_det ?_)
        refine g_top (congrArg (fun f => whR f c (t + 1 - p) p) (va_up_self M 710 (gt3 (M 710) n c))) ?_
        refine g_iastore (r := 710) F a710 ((152 + n)) rfl (by omega) (by decide) dX9_gets_110 ?_
        try simp only [bx_uu, va_up_self]
        refine g_aload_n F dX9_gets_111 rfl 1 rfl ?_
        refine gg9_state F iX9_gets_9 r709 (by decide +kernel) dX9_gets_112 ?_
        refine g_bipush F (v := 76) dX9_gets_115 (by decide +kernel) ?_
        refine g_iload_n F dX9_gets_117 rfl 2 rfl ?_
        refine g_iadd F dX9_gets_118 ?_
        refine g_top (nI_add (76) (c)) ?_
        refine g_dup2 F dX9_gets_119 rfl rfl ?_
        refine g_iaload (r := 710) F a710 ((76 + c)) rfl (by omega) (by decide) dX9_gets_120 ?_
        refine g_bipush F (v := 10) dX9_gets_121 (by decide +kernel) ?_
        refine g_iload_n F dX9_gets_123 rfl 4 rfl ?_
        refine g_imul F dX9_gets_124 ?_
        refine g_iadd F dX9_gets_125 ?_
        refine g_iastore (r := 710) F a710 ((76 + c)) rfl (by omega) (by decide) dX9_gets_126 ?_
        try simp only [bx_uu, va_up_self]
        refine g_aload_n F dX9_gets_127 rfl 1 rfl ?_
        refine gg9_state F iX9_gets_9 r709 (by decide +kernel) dX9_gets_128 ?_
        refine g_bipush F (v := 75) dX9_gets_131 (by decide +kernel) ?_
        refine g_dup2 F dX9_gets_133 rfl rfl ?_
        refine g_iaload (r := 710) F a710 (75) rfl (by omega) (by decide) dX9_gets_134 ?_
        refine g_iconst F (v := 1) dX9_gets_135 (by decide) ?_
        refine g_iadd F dX9_gets_136 ?_
        refine g_iastore (r := 710) F a710 (75) rfl (by omega) (by decide) dX9_gets_137 ?_
        try simp only [bx_uu, va_up_self]
        exact K _ _ _ dX9_gets_138 ⟨rfl, rfl⟩
      · exact absurd hci (by omega)
    | succ ni ihi =>
      intro i hni
      refine g_iload F dX9_gets_13 0 rfl ?_
      refine g_iload_n F dX9_gets_15 rfl 3 rfl ?_
      refine g_icmpN_ge F 62 dX9_gets_16 (by decide) (i) (n) rfl rfl (by omega) (by omega) (fun hci => ?_) (fun hci => ?_)
      · exact absurd hci (by omega)
      · refine g_iload_n F dX9_gets_19 rfl 4 rfl ?_
        refine g_aload_n F dX9_gets_20 rfl 1 rfl ?_
        refine gg9_state F iX9_gets_9 r709 (by decide +kernel) dX9_gets_21 ?_
        refine g_bipush F (v := 92) dX9_gets_24 (by decide +kernel) ?_
        refine g_iload F dX9_gets_26 0 rfl ?_
        refine g_iadd F dX9_gets_28 ?_
        refine g_top (nI_add (92) (i)) ?_
        refine g_iaload (r := 710) F a710 ((92 + i)) rfl (by omega) (by decide) dX9_gets_29 ?_
        refine g_iload_n F dX9_gets_30 rfl 2 rfl ?_
        refine g_icmp_ne F 53 dX9_gets_31 (by decide) (fun h2 => ?_) (fun h2 => ?_)
        · refine g_iconst F (v := 0) dX9_gets_53 (by decide) ?_
          refine g_iadd F dX9_gets_54 ?_
          refine g_istore_n F (lv2 := [(3, _), (4, _), (0, _), (1, _), (2, _)]) dX9_gets_55 rfl (by decide) rfl ?_
          refine g_iinc F (lv2 := [(4, _), (3, _), (0, _), (1, _), (2, _)]) dX9_gets_56 1 rfl (nI_1 _) (by decide) rfl ?_
          refine g_goto F 13 dX9_gets_59 (by decide) ?_
          refine g_lv (lv2 := [(4, _), (0, _), (1, _), (2, _), (3, _)]) [0, 2, 3, 4, 1] rfl ?_
          exact g_is rfl (by rw [gtS]; first | (rw [if_neg (fun z => h2 z.1)]; first | done | rfl) | (rw [if_neg (fun z => Int32.not_lt.mpr h3 z.2)]; first | done | rfl) | (rw [if_pos (And.intro (Decidable.not_not.mp h2) (Int32.not_le.mp h3))]; first | done | rfl) | (rw [if_pos (And.intro h2 (Int32.not_le.mp h3))]; first | done | rfl)) (ihi (i + 1) (by omega))
        · refine g_aload_n F dX9_gets_34 rfl 1 rfl ?_
          refine gg9_state F iX9_gets_9 r709 (by decide +kernel) dX9_gets_35 ?_
          refine g_sipush F (v := 132) dX9_gets_38 (by decide +kernel) ?_
          refine g_iload F dX9_gets_41 0 rfl ?_
          refine g_iadd F dX9_gets_43 ?_
          refine g_top (nI_add (132) (i)) ?_
          refine g_iaload (r := 710) F a710 ((132 + i)) rfl (by omega) (by decide) dX9_gets_44 ?_
          refine g_iconst F (v := 2) dX9_gets_45 (by decide) ?_
          refine g_icmp_ge F 53 dX9_gets_46 (by decide) (fun h3 => ?_) (fun h3 => ?_)
          · refine g_iconst F (v := 0) dX9_gets_53 (by decide) ?_
            refine g_iadd F dX9_gets_54 ?_
            refine g_istore_n F (lv2 := [(3, _), (4, _), (0, _), (1, _), (2, _)]) dX9_gets_55 rfl (by decide) rfl ?_
            refine g_iinc F (lv2 := [(4, _), (3, _), (0, _), (1, _), (2, _)]) dX9_gets_56 1 rfl (nI_1 _) (by decide) rfl ?_
            refine g_goto F 13 dX9_gets_59 (by decide) ?_
            refine g_lv (lv2 := [(4, _), (0, _), (1, _), (2, _), (3, _)]) [0, 2, 3, 4, 1] rfl ?_
            exact g_is rfl (by rw [gtS]; first | (rw [if_neg (fun z => h2 z.1)]; first | done | rfl) | (rw [if_neg (fun z => Int32.not_lt.mpr h3 z.2)]; first | done | rfl) | (rw [if_pos (And.intro (Decidable.not_not.mp h2) (Int32.not_le.mp h3))]; first | done | rfl) | (rw [if_pos (And.intro h2 (Int32.not_le.mp h3))]; first | done | rfl)) (ihi (i + 1) (by omega))
          · refine g_iconst F (v := 1) dX9_gets_49 (by decide) ?_
            refine g_goto F 54 dX9_gets_50 (by decide) ?_
            refine g_iadd F dX9_gets_54 ?_
            refine g_istore_n F (lv2 := [(3, _), (4, _), (0, _), (1, _), (2, _)]) dX9_gets_55 rfl (by decide) rfl ?_
            refine g_iinc F (lv2 := [(4, _), (3, _), (0, _), (1, _), (2, _)]) dX9_gets_56 1 rfl (nI_1 _) (by decide) rfl ?_
            refine g_goto F 13 dX9_gets_59 (by decide) ?_
            refine g_lv (lv2 := [(4, _), (0, _), (1, _), (2, _), (3, _)]) [0, 2, 3, 4, 1] rfl ?_
            exact g_is rfl (by rw [gtS]; first | (rw [if_neg (fun z => h2 z.1)]; first | done | rfl) | (rw [if_neg (fun z => Int32.not_lt.mpr h3 z.2)]; first | done | rfl) | (rw [if_pos (And.intro (Decidable.not_not.mp h2) (Int32.not_le.mp h3))]; first | done | rfl) | (rw [if_pos (And.intro h2 (Int32.not_le.mp h3))]; first | done | rfl)) (ihi (i + 1) (by omega))
  refine g_lv (lv2 := [(4, _), (0, _), (1, _), (2, _), (3, _)]) [0, 3, 4, 2, 1] rfl ?_
  exact g_is rfl rfl (LP (n - 0) (0) (by omega))

/-- what every row keeps -/
def RV (f : Nat → Int32) (t p n : Nat) : Prop := t < 96 ∧ f 74 = nI t ∧ 1 ≤ p ∧ p ≤ 8 ∧ f 72 = nI p ∧ n ≤ 20 ∧ f 75 = nI n ∧ (∀ c, c < 8 → ¬ f (16 + c) = 0) ∧ (∀ k, k < 3 → f (62 + k) = -1 ∨ ∃ c, c < 8 ∧ f (62 + k) = nI c)
theorem RV_of {f g : Nat → Int32} {t p n : Nat} (h : ∀ j, 16 ≤ j ∧ j < 24 ∨ 62 ≤ j ∧ j < 65 ∨ 72 ≤ j ∧ j < 76 → g j = f j) (r : RV f t p n) : RV g t p n := by
  obtain ⟨a1, a2, a3, a4, a5, a6, a7, a8, a9⟩ := r
  refine ⟨a1, (h 74 (by omega)).trans a2, a3, a4, (h 72 (by omega)).trans a5, a6, (h 75 (by omega)).trans a7, ?_, ?_⟩
  · intro c hc; rw [h (16 + c) (by omega)]; exact a8 c hc
  · intro k hk; rw [h (62 + k) (by omega)]; exact a9 k hk
theorem waC_lo (f : Nat → Int32) {t k c j : Nat} (hk : k < 3) (h : j < 65 ∨ 71 ≤ j ∧ j < 172) : waC f t k c j = f j := by
  unfold waC
  rw [upd_ne _ _ (by omega), upd_ne _ _ (by omega), upd_ne _ _ (by omega)]
theorem waR_lo (f : Nat → Int32) {t k j : Nat} (hk : k < 3) (h : j < 65 ∨ 71 ≤ j ∧ j < 172) : waR f t k j = f j := by
  unfold waR
  split
  · rfl
  · exact waC_lo f hk h
def waI (f : Nat → Int32) (t : Nat) : Nat → Nat → Int32
  | 0 => f
  | k + 1 => waR (waI f t k) t k
theorem waI_lo (f : Nat → Int32) {t j : Nat} (h : j < 65 ∨ 71 ≤ j ∧ j < 172) : ∀ k, k ≤ 3 → waI f t k j = f j
  | 0, _ => rfl
  | k + 1, hk => (waR_lo _ (by omega) h).trans (waI_lo f h k (by omega))
/-- tiredness -/
def tiI (f : Nat → Int32) : Nat → Nat → Int32
  | 0 => f
  | k + 1 => upd (tiI f k) (59 + k) (if tiI f k (62 + k) = -1 then 0 else tiI f k (59 + k) + 1)
theorem tiI_lo (f : Nat → Int32) {j : Nat} (h : j < 59 ∨ 62 ≤ j) : ∀ k, k ≤ 3 → tiI f k j = f j
  | 0, _ => rfl
  | k + 1, hk => (upd_ne _ _ (by omega)).trans (tiI_lo f h k (by omega))
def gnR (f : Nat → Int32) (t p c : Nat) : Nat → Int32 := if f 75 < 20 ∧ nI (upR (rgR f c) (f 71) (t + 1)) = f 72 then gtR f t p (f 75).toNatClampNeg c else f
def gnI (f : Nat → Int32) (t p : Nat) : Nat → Nat → Int32
  | 0 => f
  | c + 1 => gnR (gnI f t p c) t p c
theorem gt3_lo (f : Nat → Int32) {n c j : Nat} (h : j < 92) : gt3 f n c j = f j := by
  unfold gt3
  rw [upd_ne _ _ (by omega), upd_ne _ _ (by omega), upd_ne _ _ (by omega)]
theorem gt5_lo (f : Nat → Int32) {t p n c j : Nat} (h : j < 76) : gt5 f t p n c j = f j := by
  unfold gt5
  rw [upd_ne _ _ (by omega), upd_ne _ _ (by omega), gt3_lo _ (by omega)]
theorem gtR_RV {f : Nat → Int32} {t p n c : Nat} (hn : n < 20) (r : RV f t p n) : RV (gtR f t p n c) t p (n + 1) := by
  have h : ∀ j, j < 75 → gtR f t p n c j = f j := fun j hj => (upd_ne _ _ (by omega)).trans (gt5_lo f (by omega))
  obtain ⟨a1, a2, a3, a4, a5, a6, a7, a8, a9⟩ := r
  refine ⟨a1, (h 74 (by omega)).trans a2, a3, a4, (h 72 (by omega)).trans a5, by omega, ?_, ?_, ?_⟩
  · rw [gtR, upd_at, gt5_lo _ (by omega), a7]; exact nI_add n 1
  · intro c hc; rw [h (16 + c) (by omega)]; exact a8 c hc
  · intro k hk; rw [h (62 + k) (by omega)]; exact a9 k hk
theorem gnR_RV {f : Nat → Int32} {t p n : Nat} (c : Nat) (r : RV f t p n) : ∃ n, RV (gnR f t p c) t p n := by
  unfold gnR
  by_cases h : f 75 < 20 ∧ nI (upR (rgR f c) (f 71) (t + 1)) = f 72
  · rw [if_pos h]
    have h75 := r.2.2.2.2.2.2.1
    have hn := r.2.2.2.2.2.1
    have h20 : n < 20 := (nI_ltI (a := n) (b := 20) (by omega) (by omega)).mp (by rw [← h75]; exact h.1)
    rw [h75, nI_clamp (by omega)]; exact ⟨n + 1, gtR_RV h20 r⟩
  · rw [if_neg h]; exact ⟨n, r⟩
theorem gnI_RV {f : Nat → Int32} {t p n : Nat} (r : RV f t p n) : ∀ c, ∃ n, RV (gnI f t p c) t p n
  | 0 => ⟨n, r⟩
  | c + 1 => by obtain ⟨n, h⟩ := gnI_RV r c; exact gnR_RV c h
def goR (f : Nat → Int32) : Nat → Int32 := if upd f 74 (f 74 + 1) 74 = 96 then fgR (upd (upd (upd f 74 (f 74 + 1)) 74 0) 73 (upd (upd f 74 (f 74 + 1)) 74 0 73 + 1)) 768 else upd f 74 (f 74 + 1)
/-- a tick on the row -/
def tkR (f : Nat → Int32) (t p : Nat) : Nat → Int32 := goR (gnI (tiI (waI (ndR f t 8) t 3) 3) t p 8)
theorem RV_nd {f : Nat → Int32} {t p n i : Nat} (r : RV f t p n) : RV (ndR f t i) t p n := RV_of (fun j hj => ndR_lo f t (by omega) i) r
theorem RV_wa {f : Nat → Int32} {t p n i : Nat} (hi : i ≤ 3) (r : RV f t p n) : RV (waI f t i) t p n := RV_of (fun j hj => waI_lo f (by omega) i hi) r
theorem RV_ti {f : Nat → Int32} {t p n i : Nat} (hi : i ≤ 3) (r : RV f t p n) : RV (tiI f i) t p n := RV_of (fun j hj => tiI_lo f (by omega) i hi) r
theorem goR_RV {f : Nat → Int32} {t p n : Nat} (r : RV f t p n) : ∃ t2, RV (goR f) t2 p n := by
  obtain ⟨a1, a2, a3, a4, a5, a6, a7, a8, a9⟩ := r
  unfold goR
  rw [upd_at, a2, nI_1]
  by_cases h : nI (t + 1) = 96
  · rw [if_pos h]
    have k : ∀ j, j ≠ 74 → j ≠ 73 → j < 172 → fgR (upd (upd (upd f 74 (nI (t + 1))) 74 0) 73 (upd (upd f 74 (nI (t + 1))) 74 0 73 + 1)) 768 j = f j := by
      intro j h1 h2 h3
      unfold fgR
      rw [if_neg (by omega), upd_ne _ _ h2, upd_ne _ _ h1, upd_ne _ _ h1]
    refine ⟨0, by omega, ?_, a3, a4, (k 72 (by omega) (by omega) (by omega)).trans a5, a6, (k 75 (by omega) (by omega) (by omega)).trans a7, ?_, ?_⟩
    · unfold fgR; rw [if_neg (by omega), upd_ne _ _ (by omega), upd_at]; rfl
    · intro c hc; rw [k (16 + c) (by omega) (by omega) (by omega)]; exact a8 c hc
    · intro c hc; rw [k (62 + c) (by omega) (by omega) (by omega)]; exact a9 c hc
  · rw [if_neg h]
    have h95 : t + 1 ≠ 96 := fun z => h (by rw [z]; rfl)
    refine ⟨t + 1, by omega, upd_at _ _ _, a3, a4, (upd_ne _ _ (by omega)).trans a5, a6, (upd_ne _ _ (by omega)).trans a7, ?_, ?_⟩
    · intro c hc; rw [upd_ne _ _ (by omega)]; exact a8 c hc
    · intro c hc; rw [upd_ne _ _ (by omega)]; exact a9 c hc
theorem tkR_RV {f : Nat → Int32} {t p n : Nat} (r : RV f t p n) : ∃ t2 n2, RV (tkR f t p) t2 p n2 := by
  obtain ⟨n2, h⟩ := gnI_RV (RV_ti (i := 3) (by omega) (RV_wa (i := 3) (by omega) (RV_nd (i := 8) r))) 8
  obtain ⟨t2, h2⟩ := goR_RV h
  exact ⟨t2, n2, h2⟩

theorem nI_inj {a b : Nat} (ha : a < 2 ^ 31) (hb : b < 2 ^ 31) (h : nI a = nI b) : a = b := by rw [← nI_clamp ha, h, nI_clamp hb]
theorem gn_pt {f : Nat → Int32} {y : Int32} {t p : Nat} (hp : p ≤ 8) (ht : t < 96) (h : nI (upR f y (t + 1)) = nI p) : p ≤ t + 1 := by
  have h1 := upR_le f y (t + 1)
  have h2 := nI_inj (by omega) (by omega) h
  omega
theorem gnR_no1 {f : Nat → Int32} {t p n c : Nat} (h75 : f 75 = nI n) (hn : n ≤ 20) (h : 20 ≤ n) : gnR f t p c = f := by
  refine if_neg (fun z => ?_)
  have h2 := (nI_ltI (a := n) (b := 20) (by omega) (by omega)).mp (by rw [← h75]; exact z.1)
  omega
theorem gnR_no2 {f : Nat → Int32} {t p c : Nat} (h72 : f 72 = nI p) (h : ¬ nI (upR (rgR f c) (f 71) (t + 1)) = nI p) : gnR f t p c = f := if_neg (fun z => h (by rw [← h72]; exact z.2))
theorem gnR_yes {f : Nat → Int32} {t p n c : Nat} (h75 : f 75 = nI n) (h72 : f 72 = nI p) (hn : n < 20) (h : nI (upR (rgR f c) (f 71) (t + 1)) = nI p) : gnR f t p c = gtR f t p n c := by
  unfold gnR
  rw [if_pos (And.intro (by rw [h75]; exact (nI_ltI (a := n) (b := 20) (by omega) (by omega)).mpr hn) (by rw [h72]; exact h)), h75, nI_clamp (by omega)]
abbrev rmX9_tick : Room := { frames := 3, cells := 0, slots := 0, locals := 73 }
theorem iX9_tick_9 : ∀ w ∈ u_ws RX9 TX9 15, w ∈ wsX9_tick := by decide +kernel
set_option maxHeartbeats 300000 in
set_option maxRecDepth 100000 in
theorem kX9_tick (l : Launch) {M : Mm} {t p n : Nat} (hR : RV (M 710) t p n) : Ct l yX9_tick wsX9_tick rmX9_tick (fun B => [.ref (B + 709)]) M (fun _ v u => v = none ∧ u = va_up M 710 (tkR (M 710) t p)) := by
  refine Ct.ofV (own := RX9) (by decide +kernel) rfl rfl (fun B => Nat.le_of_ble_eq_true rfl) ?_
  intro pp ee ss mm aa bb me c9 DD ca B Tl AA QQ F K
  show G pp l ee rmX9_tick ss mm aa bb me c9 QQ DD ca B Tl AA 2 0 0 M 0 [(0, .ref (B + 709))] []
  refine g_aload_n F dX9_tick_0 rfl 0 rfl ?_
  refine g_callV F (kX9_noteDown l hR.1 hR.2.1 hR.2.2.2.2.2.2.2.1) (cwV 0 F.1.2.2.2.2 gX9_tick_X9_noteDown rfl rfl rfl (by decide +kernel) ⟨Nat.le_of_ble_eq_true rfl, Nat.le_of_ble_eq_true rfl⟩) r709 (by decide) rfl rfl rfl rfl (Nat.le_of_ble_eq_true rfl) dX9_tick_1 ⟨Nat.le_of_ble_eq_true rfl, Nat.le_of_ble_eq_true rfl⟩ (g_det ?_)
  refine g_iconst F (v := 0) dX9_tick_4 (by decide) ?_
  refine g_istore_n F (lv2 := [(1, _), (0, _)]) dX9_tick_5 rfl (by decide) rfl ?_
  have LP : ∀ (ni i : Nat), i + ni = 3 → G pp l ee rmX9_tick ss mm aa bb me c9 QQ DD ca B Tl AA 2 0 0 (va_up M 710 (waI (ndR (M 710) t 8) t i)) 6 [(1, .int (nI i)), (0, .ref (B + 709))] [] := by
    intro ni
    induction ni with
    | zero =>
      intro i hni
      refine g_iload_n F dX9_tick_6 rfl 0 rfl ?_
      refine g_iconst F (v := 3) dX9_tick_7 (by decide) ?_
      refine g_icmpN_ge F 22 dX9_tick_8 (by decide) (i) (3) rfl rfl (by omega) (by omega) (fun hci => ?_) (fun hci => ?_)
      · obtain rfl : i = 3 := by omega
        refine g_iconst F (v := 0) dX9_tick_22 (by decide) ?_
        refine g_istore_n F (lv2 := [(1, _), (0, _)]) dX9_tick_23 rfl (by decide) rfl ?_
        have LQ : ∀ (ni i : Nat), i + ni = 3 → G pp l ee rmX9_tick ss mm aa bb me c9 QQ DD ca B Tl AA 2 0 0 (va_up M 710 (tiI (waI (ndR (M 710) t 8) t 3) i)) 24 [(1, .int (nI i)), (0, .ref (B + 709))] [] := by
          intro ni
          induction ni with
          | zero =>
            intro i hni
            refine g_iload_n F dX9_tick_24 rfl 0 rfl ?_
            refine g_iconst F (v := 3) dX9_tick_25 (by decide) ?_
            refine g_icmpN_ge F 72 dX9_tick_26 (by decide) (i) (3) rfl rfl (by omega) (by omega) (fun hci => ?_) (fun hci => ?_)
            · obtain rfl : i = 3 := by omega
              refine g_iconst F (v := 0) dX9_tick_72 (by decide) ?_
              refine g_istore_n F (lv2 := [(1, _), (0, _)]) dX9_tick_73 rfl (by decide) rfl ?_
              have LR : ∀ (ni i : Nat), i + ni = 8 → G pp l ee rmX9_tick ss mm aa bb me c9 QQ DD ca B Tl AA 2 0 0 (va_up M 710 (gnI (tiI (waI (ndR (M 710) t 8) t 3) 3) t p i)) 74 [(1, .int (nI i)), (0, .ref (B + 709))] [] := by
                intro ni
                induction ni with
                | zero =>
                  intro i hni
                  refine g_iload_n F dX9_tick_74 rfl 0 rfl ?_
                  refine g_bipush F (v := 8) dX9_tick_75 (by decide +kernel) ?_
                  refine g_icmpN_ge F 132 dX9_tick_77 (by decide) (i) (8) rfl rfl (by omega) (by omega) (fun hci => ?_) (fun hci => ?_)
                  · obtain rfl : i = 8 := by omega
                    refine g_aload_n F dX9_tick_132 rfl 1 rfl ?_
                    refine gg9_state F iX9_tick_9 r709 (by decide +kernel) dX9_tick_133 ?_
                    refine g_bipush F (v := 74) dX9_tick_136 (by decide +kernel) ?_
                    refine g_dup2 F dX9_tick_138 rfl rfl ?_
                    refine g_iaload (r := 710) F a710 (74) rfl (by omega) (by decide) dX9_tick_139 ?_
                    refine g_iconst F (v := 1) dX9_tick_140 (by decide) ?_
                    refine g_iadd F dX9_tick_141 ?_
                    refine g_iastore (r := 710) F a710 (74) rfl (by omega) (by decide) dX9_tick_142 ?_
                    try simp only [bx_uu, va_up_self]
                    refine g_aload_n F dX9_tick_143 rfl 1 rfl ?_
                    refine gg9_state F iX9_tick_9 r709 (by decide +kernel) dX9_tick_144 ?_
                    refine g_bipush F (v := 74) dX9_tick_147 (by decide +kernel) ?_
                    refine g_iaload (r := 710) F a710 (74) rfl (by omega) (by decide) dX9_tick_149 ?_
                    refine g_top (y := upd (gnI (tiI (waI (ndR (M 710) t 8) t 3) 3) t p 8) 74 ((gnI (tiI (waI (ndR (M 710) t 8) t 3) 3) t p 8) 74 + 1) 74) (by rw [va_up_self]) ?_
                    refine g_bipush F (v := 96) dX9_tick_150 (by decide +kernel) ?_
                    refine g_icmp_ne F 178 dX9_tick_152 (by decide) (fun h5 => ?_) (fun h5 => ?_)
                    · exact K _ _ _ dX9_tick_178 ⟨rfl, by first | (rw [tkR, goR, if_pos (by first | exact h5 | exact Decidable.not_not.mp h5)]; done) | (rw [tkR, goR, if_neg h5]; done)⟩
                    · refine g_aload_n F dX9_tick_155 rfl 1 rfl ?_
                      refine gg9_state F iX9_tick_9 r709 (by decide +kernel) dX9_tick_156 ?_
                      refine g_bipush F (v := 74) dX9_tick_159 (by decide +kernel) ?_
                      refine g_iconst F (v := 0) dX9_tick_161 (by decide) ?_
                      refine g_iastore (r := 710) F a710 (74) rfl (by omega) (by decide) dX9_tick_162 ?_
                      try simp only [bx_uu, va_up_self]
                      refine g_aload_n F dX9_tick_163 rfl 1 rfl ?_
                      refine gg9_state F iX9_tick_9 r709 (by decide +kernel) dX9_tick_164 ?_
                      refine g_bipush F (v := 73) dX9_tick_167 (by decide +kernel) ?_
                      refine g_dup2 F dX9_tick_169 rfl rfl ?_
                      refine g_iaload (r := 710) F a710 (73) rfl (by omega) (by decide) dX9_tick_170 ?_
                      refine g_iconst F (v := 1) dX9_tick_171 (by decide) ?_
                      refine g_iadd F dX9_tick_172 ?_
                      refine g_iastore (r := 710) F a710 (73) rfl (by omega) (by decide) dX9_tick_173 ?_
                      try simp only [bx_uu, va_up_self]
                      refine g_aload_n F dX9_tick_174 rfl 1 rfl ?_
                      refine g_callV F (kX9_forget l) (cwV 0 F.1.2.2.2.2 gX9_tick_X9_forget rfl rfl rfl (by decide +kernel) ⟨Nat.le_of_ble_eq_true rfl, Nat.le_of_ble_eq_true rfl⟩) r709 (by decide) rfl rfl rfl rfl (Nat.le_of_ble_eq_true rfl) dX9_tick_175 ⟨Nat.le_of_ble_eq_true rfl, Nat.le_of_ble_eq_true rfl⟩ (g_det ?_)
                      try simp only [bx_uu, va_up_self]
                      exact K _ _ _ dX9_tick_178 ⟨rfl, by first | (rw [tkR, goR, if_pos (by first | exact h5 | exact Decidable.not_not.mp h5)]; done) | (rw [tkR, goR, if_neg h5]; done)⟩
                  · exact absurd hci (by omega)
                | succ ni ihi =>
                  intro i hni
                  obtain ⟨n, hRi⟩ := gnI_RV (RV_ti (i := 3) (by omega) (RV_wa (i := 3) (by omega) (RV_nd (i := 8) hR))) i
                  obtain ⟨ht, q74, qp1, qp8, q72, qn, q75, qne, qW⟩ := hRi
                  refine g_iload_n F dX9_tick_74 rfl 0 rfl ?_
                  refine g_bipush F (v := 8) dX9_tick_75 (by decide +kernel) ?_
                  refine g_icmpN_ge F 132 dX9_tick_77 (by decide) (i) (8) rfl rfl (by omega) (by omega) (fun hci => ?_) (fun hci => ?_)
                  · exact absurd hci (by omega)
                  · refine g_aload_n F dX9_tick_80 rfl 1 rfl ?_
                    refine gg9_state F iX9_tick_9 r709 (by decide +kernel) dX9_tick_81 ?_
                    refine g_bipush F (v := 75) dX9_tick_84 (by decide +kernel) ?_
                    refine g_iaload (r := 710) F a710 (75) rfl (by omega) (by decide) dX9_tick_86 ?_
                    refine g_top (y := nI n) (by rw [va_up_self]; exact q75) ?_
                    refine g_bipush F (v := 20) dX9_tick_87 (by decide +kernel) ?_
                    refine g_icmpN_ge F 126 dX9_tick_89 (by decide) (n) (20) rfl rfl (by omega) (by omega) (fun h3 => ?_) (fun h3 => ?_)
                    · refine g_iinc F (lv2 := [(1, _), (0, _)]) dX9_tick_126 0 rfl (nI_1 _) (by decide) rfl ?_
                      refine g_goto F 74 dX9_tick_129 (by decide) ?_
                      refine g_lv (lv2 := [(1, _), (0, _)]) [0, 1] rfl ?_
                      exact g_is (by first | exact congrArg (va_up M 710) (gnR_no1 q75 qn h3).symm | exact congrArg (va_up M 710) (gnR_no2 q72 h4).symm | exact congrArg (va_up M 710) (gnR_yes q75 q72 (by omega) h4).symm) rfl (ihi (i + 1) (by omega))
                    · refine g_aload_n F dX9_tick_92 rfl 1 rfl ?_
                      refine g_iload_n F dX9_tick_93 rfl 0 rfl ?_
                      refine g_aload_n F dX9_tick_94 rfl 1 rfl ?_
                      refine gg9_state F iX9_tick_9 r709 (by decide +kernel) dX9_tick_95 ?_
                      refine g_bipush F (v := 74) dX9_tick_98 (by decide +kernel) ?_
                      refine g_iaload (r := 710) F a710 (74) rfl (by omega) (by decide) dX9_tick_100 ?_
                      refine g_top (y := nI t) (by rw [va_up_self]; exact q74) ?_
                      refine g_aload_n F dX9_tick_101 rfl 1 rfl ?_
                      refine gg9_state F iX9_tick_9 r709 (by decide +kernel) dX9_tick_102 ?_
                      refine g_bipush F (v := 71) dX9_tick_105 (by decide +kernel) ?_
                      refine g_iaload (r := 710) F a710 (71) rfl (by omega) (by decide) dX9_tick_107 ?_
                      refine g_callV F (kX9_rowUpTo l (M := va_up M 710 (gnI (tiI (waI (ndR (M 710) t 8) t 3) 3) t p i)) (c := i) (t := t) (by omega) ht _) (cwV 3 F.1.2.2.2.2 gX9_tick_X9_rowUpTo rfl rfl rfl (by decide +kernel) ⟨Nat.le_of_ble_eq_true rfl, Nat.le_of_ble_eq_true rfl⟩) r709 (by decide) rfl rfl rfl rfl (Nat.le_of_ble_eq_true rfl) dX9_tick_108 ⟨Nat.le_of_ble_eq_true rfl, Nat.le_of_ble_eq_true rfl⟩ (g_det ?_)
                      refine g_top (congrArg (fun f => nI (upR (rgR f i) (f 71) (t + 1))) (va_up_self M 710 (gnI (tiI (waI (ndR (M 710) t 8) t 3) 3) t p i))) ?_
                      refine g_aload_n F dX9_tick_111 rfl 1 rfl ?_
                      refine gg9_state F iX9_tick_9 r709 (by decide +kernel) dX9_tick_112 ?_
                      refine g_bipush F (v := 72) dX9_tick_115 (by decide +kernel) ?_
                      refine g_iaload (r := 710) F a710 (72) rfl (by omega) (by decide) dX9_tick_117 ?_
                      refine g_top (y := nI p) (by rw [va_up_self]; exact q72) ?_
                      refine g_icmp_ne F 126 dX9_tick_118 (by decide) (fun h4 => ?_) (fun h4 => ?_)
                      · refine g_iinc F (lv2 := [(1, _), (0, _)]) dX9_tick_126 0 rfl (nI_1 _) (by decide) rfl ?_
                        refine g_goto F 74 dX9_tick_129 (by decide) ?_
                        refine g_lv (lv2 := [(1, _), (0, _)]) [0, 1] rfl ?_
                        exact g_is (by first | exact congrArg (va_up M 710) (gnR_no1 q75 qn h3).symm | exact congrArg (va_up M 710) (gnR_no2 q72 h4).symm | exact congrArg (va_up M 710) (gnR_yes q75 q72 (by omega) h4).symm) rfl (ihi (i + 1) (by omega))
                      · have hpt : p ≤ t + 1 := gn_pt qp8 ht h4
                        refine g_aload_n F dX9_tick_121 rfl 1 rfl ?_
                        refine g_iload_n F dX9_tick_122 rfl 0 rfl ?_
                        refine g_callV F (kX9_gets l (M := va_up M 710 (gnI (tiI (waI (ndR (M 710) t 8) t 3) 3) t p i)) (t := t) (p := p) (n := n) (c := i) (by omega) ht (by rw [va_up_self]; exact q74) hpt (by rw [va_up_self]; exact q72) (by rw [va_up_self]; exact q75) (by omega)) (cwV 1 F.1.2.2.2.2 gX9_tick_X9_gets rfl rfl rfl (by decide +kernel) ⟨Nat.le_of_ble_eq_true rfl, Nat.le_of_ble_eq_true rfl⟩) r709 (by decide) rfl rfl rfl rfl (Nat.le_of_ble_eq_true rfl) dX9_tick_123 ⟨Nat.le_of_ble_eq_true rfl, Nat.le_of_ble_eq_true rfl⟩ (g_det ?_)
                        try simp only [bx_uu, va_up_self]
                        refine g_iinc F (lv2 := [(1, _), (0, _)]) dX9_tick_126 0 rfl (nI_1 _) (by decide) rfl ?_
                        refine g_goto F 74 dX9_tick_129 (by decide) ?_
                        refine g_lv (lv2 := [(1, _), (0, _)]) [0, 1] rfl ?_
                        exact g_is (by first | exact congrArg (va_up M 710) (gnR_no1 q75 qn h3).symm | exact congrArg (va_up M 710) (gnR_no2 q72 h4).symm | exact congrArg (va_up M 710) (gnR_yes q75 q72 (by omega) h4).symm) rfl (ihi (i + 1) (by omega))
              refine g_lv (lv2 := [(1, _), (0, _)]) [0, 1] rfl ?_
              exact g_is rfl rfl (LR (8 - 0) (0) (by omega))
            · exact absurd hci (by omega)
          | succ ni ihi =>
            intro i hni
            refine g_iload_n F dX9_tick_24 rfl 0 rfl ?_
            refine g_iconst F (v := 3) dX9_tick_25 (by decide) ?_
            refine g_icmpN_ge F 72 dX9_tick_26 (by decide) (i) (3) rfl rfl (by omega) (by omega) (fun hci => ?_) (fun hci => ?_)
            · exact absurd hci (by omega)
            · refine g_aload_n F dX9_tick_29 rfl 1 rfl ?_
              refine gg9_state F iX9_tick_9 r709 (by decide +kernel) dX9_tick_30 ?_
              refine g_bipush F (v := 59) dX9_tick_33 (by decide +kernel) ?_
              refine g_iload_n F dX9_tick_35 rfl 0 rfl ?_
              refine g_iadd F dX9_tick_36 ?_
              refine g_top (nI_add (59) (i)) ?_
              refine g_aload_n F dX9_tick_37 rfl 1 rfl ?_
              refine gg9_state F iX9_tick_9 r709 (by decide +kernel) dX9_tick_38 ?_
              refine g_bipush F (v := 62) dX9_tick_41 (by decide +kernel) ?_
              refine g_iload_n F dX9_tick_43 rfl 0 rfl ?_
              refine g_iadd F dX9_tick_44 ?_
              refine g_top (nI_add (62) (i)) ?_
              refine g_iaload (r := 710) F a710 ((62 + i)) rfl (by omega) (by decide) dX9_tick_45 ?_
              refine g_top (y := tiI (waI (ndR (M 710) t 8) t 3) i (62 + i)) (by rw [va_up_self]) ?_
              refine g_iconst F (v := -1) dX9_tick_46 (by decide) ?_
              refine g_icmp_ne F 54 dX9_tick_47 (by decide) (fun h2 => ?_) (fun h2 => ?_)
              · refine g_aload_n F dX9_tick_54 rfl 1 rfl ?_
                refine gg9_state F iX9_tick_9 r709 (by decide +kernel) dX9_tick_55 ?_
                refine g_bipush F (v := 59) dX9_tick_58 (by decide +kernel) ?_
                refine g_iload_n F dX9_tick_60 rfl 0 rfl ?_
                refine g_iadd F dX9_tick_61 ?_
                refine g_top (nI_add (59) (i)) ?_
                refine g_iaload (r := 710) F a710 ((59 + i)) rfl (by omega) (by decide) dX9_tick_62 ?_
                refine g_top (y := tiI (waI (ndR (M 710) t 8) t 3) i (59 + i)) (by rw [va_up_self]) ?_
                refine g_iconst F (v := 1) dX9_tick_63 (by decide) ?_
                refine g_iadd F dX9_tick_64 ?_
                refine g_top (y := if tiI (waI (ndR (M 710) t 8) t 3) i (62 + i) = -1 then 0 else tiI (waI (ndR (M 710) t 8) t 3) i (59 + i) + 1) (by first | exact (if_pos h2).symm | exact (if_neg h2).symm | exact (if_pos (Decidable.not_not.mp h2)).symm) ?_
                refine g_iastore (r := 710) F a710 ((59 + i)) rfl (by omega) (by decide) dX9_tick_65 ?_
                refine g_iinc F (lv2 := [(1, _), (0, _)]) dX9_tick_66 0 rfl (nI_1 _) (by decide) rfl ?_
                refine g_goto F 24 dX9_tick_69 (by decide) ?_
                refine g_lv (lv2 := [(1, _), (0, _)]) [0, 1] rfl ?_
                exact g_is (by rw [bx_uu, va_up_self]; rfl) rfl (ihi (i + 1) (by omega))
              · refine g_iconst F (v := 0) dX9_tick_50 (by decide) ?_
                refine g_goto F 65 dX9_tick_51 (by decide) ?_
                refine g_top (y := if tiI (waI (ndR (M 710) t 8) t 3) i (62 + i) = -1 then 0 else tiI (waI (ndR (M 710) t 8) t 3) i (59 + i) + 1) (by first | exact (if_pos h2).symm | exact (if_neg h2).symm | exact (if_pos (Decidable.not_not.mp h2)).symm) ?_
                refine g_iastore (r := 710) F a710 ((59 + i)) rfl (by omega) (by decide) dX9_tick_65 ?_
                refine g_iinc F (lv2 := [(1, _), (0, _)]) dX9_tick_66 0 rfl (nI_1 _) (by decide) rfl ?_
                refine g_goto F 24 dX9_tick_69 (by decide) ?_
                refine g_lv (lv2 := [(1, _), (0, _)]) [0, 1] rfl ?_
                exact g_is (by rw [bx_uu, va_up_self]; rfl) rfl (ihi (i + 1) (by omega))
        refine g_lv (lv2 := [(1, _), (0, _)]) [0, 1] rfl ?_
        exact g_is rfl rfl (LQ (3 - 0) (0) (by omega))
      · exact absurd hci (by omega)
    | succ ni ihi =>
      intro i hni
      obtain ⟨ht, q74, qp1, qp8, q72, qn, q75, qne, qW⟩ := RV_wa (i := i) (by omega) (RV_nd (i := 8) hR)
      refine g_iload_n F dX9_tick_6 rfl 0 rfl ?_
      refine g_iconst F (v := 3) dX9_tick_7 (by decide) ?_
      refine g_icmpN_ge F 22 dX9_tick_8 (by decide) (i) (3) rfl rfl (by omega) (by omega) (fun hci => ?_) (fun hci => ?_)
      · exact absurd hci (by omega)
      · refine g_aload_n F dX9_tick_11 rfl 1 rfl ?_
        refine g_iload_n F dX9_tick_12 rfl 0 rfl ?_
        refine g_callV F (kX9_watches l (M := va_up M 710 (waI (ndR (M 710) t 8) t i)) (k := i) (by omega) ht (by rw [va_up_self]; exact q74) (by rw [va_up_self]; exact qne) (by rw [va_up_self]; exact qW i (by omega))) (cwV 1 F.1.2.2.2.2 gX9_tick_X9_watches rfl rfl rfl (by decide +kernel) ⟨Nat.le_of_ble_eq_true rfl, Nat.le_of_ble_eq_true rfl⟩) r709 (by decide) rfl rfl rfl rfl (Nat.le_of_ble_eq_true rfl) dX9_tick_13 ⟨Nat.le_of_ble_eq_true rfl, Nat.le_of_ble_eq_true rfl⟩ (g_det ?_)
        try simp only [bx_uu, va_up_self]
        refine g_iinc F (lv2 := [(1, _), (0, _)]) dX9_tick_16 0 rfl (nI_1 _) (by decide) rfl ?_
        refine g_goto F 6 dX9_tick_19 (by decide) ?_
        refine g_lv (lv2 := [(1, _), (0, _)]) [0, 1] rfl ?_
        exact g_is rfl rfl (ihi (i + 1) (by omega))
  refine g_lv (lv2 := [(1, _), (0, _)]) [0, 1] rfl ?_
  exact g_is rfl rfl (LP (3 - 0) (0) (by omega))
