theorem upd_ne (f : Nat → Int32) {k j : Nat} (x : Int32) (h : j ≠ k) : upd f k x j = f j := if_neg h
theorem upd_at (f : Nat → Int32) (k : Nat) (x : Int32) : upd f k x k = x := if_pos rfl
/-- the readings of chimney c, in the row -/
abbrev rgR (f : Nat → Int32) (c : Nat) : Nat → Int32 := fun j => f (172 + 96 * c + j)
/-- the grey and the shades of the tick are noted -/
def ndR (f : Nat → Int32) (t : Nat) : Nat → Nat → Int32
  | 0 => upd f (1708 + t) (f (32 + t / 4))
  | i + 1 => upd (ndR f t i) (940 + 96 * i + t) (shR (ndR f t i) i (nI t))
theorem ndR_lo (f : Nat → Int32) (t : Nat) {j : Nat} (h : j < 940) : ∀ i, ndR f t i j = f j
  | 0 => upd_ne _ _ (by omega)
  | i + 1 => (upd_ne _ _ (by omega)).trans (ndR_lo f t h i)
def waC (f : Nat → Int32) (t k c : Nat) : Nat → Int32 :=
  upd (upd (upd f (172 + 96 * c + t) (if f (172 + 96 * c + t) < rdgR f t k c then rdgR f t k c else f (172 + 96 * c + t))) (65 + k) (upd f (172 + 96 * c + t) (if f (172 + 96 * c + t) < rdgR f t k c then rdgR f t k c else f (172 + 96 * c + t)) (65 + k) + (if rdgR f t k c - shR f c (f 74) < 0 then -(rdgR f t k c - shR f c (f 74)) else rdgR f t k c - shR f c (f 74)))) (68 + k)
    (upd (upd f (172 + 96 * c + t) (if f (172 + 96 * c + t) < rdgR f t k c then rdgR f t k c else f (172 + 96 * c + t))) (65 + k) (upd f (172 + 96 * c + t) (if f (172 + 96 * c + t) < rdgR f t k c then rdgR f t k c else f (172 + 96 * c + t)) (65 + k) + (if rdgR f t k c - shR f c (f 74) < 0 then -(rdgR f t k c - shR f c (f 74)) else rdgR f t k c - shR f c (f 74))) (68 + k) + 1)
/-- an observer watches -/
def waR (f : Nat → Int32) (t k : Nat) : Nat → Int32 := if f (62 + k) = -1 then f else waC f t k (f (62 + k)).toNatClampNeg
/-- why an appeal would be upheld, from tick s on -/
def whR (f : Nat → Int32) (c s : Nat) : Nat → Int32
  | 0 => 2
  | i + 1 => if 2 < f (1708 + (s + i)) then 0 else if f (940 + 96 * c + (s + i)) < f 71 ∧ whR f c s i = 2 then 1 else whR f c s i
def gtS (f : Nat → Int32) (c : Nat) : Nat → Int32
  | 0 => 1
  | i + 1 => gtS f c i + (if f (92 + i) = nI c ∧ f (132 + i) < 2 then 1 else 0)
def gt3 (f : Nat → Int32) (n c : Nat) : Nat → Int32 := upd (upd (upd f (92 + n) (nI c)) (112 + n) (10 * gtS f c n)) (132 + n) 0
def gt5 (f : Nat → Int32) (t p n c : Nat) : Nat → Int32 :=
  upd (upd (gt3 f n c) (152 + n) (whR (gt3 f n c) c (t + 1 - p) p)) (76 + c) (upd (gt3 f n c) (152 + n) (whR (gt3 f n c) c (t + 1 - p) p) (76 + c) + 10 * gtS f c n)
/-- a notice is written -/
def gtR (f : Nat → Int32) (t p n c : Nat) : Nat → Int32 := upd (gt5 f t p n c) 75 (gt5 f t p n c 75 + 1)

abbrev rmX9_rowUpTo : Room := { frames := 1, cells := 0, slots := 0, locals := 22 }
set_option maxHeartbeats 300000 in
set_option maxRecDepth 100000 in
theorem kX9_rowUpTo (l : Launch) {M : Mm} {c t : Nat} (hc : c < 8) (ht : t < 96) (y : Int32) : Ct l yX9_rowUpTo wsX9_rowUpTo rmX9_rowUpTo (fun B => [.ref (B + 709), .int (nI c), .int (nI t), .int y]) M (fun _ v u => v = some (.int (nI (upR (rgR (M 710) c) y (t + 1)))) ∧ u = M) := by
  refine Ct.ofI (own := RX9) (by decide +kernel) rfl rfl (fun B => Nat.le_of_ble_eq_true rfl) ?_
  intro pp ee ss mm aa bb me c9 DD ca B Tl AA QQ F K
  show G pp l ee rmX9_rowUpTo ss mm aa bb me c9 QQ DD ca B Tl AA 5 0 0 M 0 [(0, .ref (B + 709)), (1, .int (nI c)), (2, .int (nI t)), (3, .int y)] []
  generalize hW : upR (rgR (M 710) c) y (t + 1) = W at K
  refine g_iconst F (v := 0) dX9_rowUpTo_0 (by decide) ?_
  refine g_istore F (lv2 := [(4, _), (0, _), (1, _), (2, _), (3, _)]) dX9_rowUpTo_1 (by decide) rfl ?_
  have LP : ∀ (ni i : Nat), i + ni = (t + 1) → i + upR (rgR (M 710) c) y (t + 1 - i) = W → G pp l ee rmX9_rowUpTo ss mm aa bb me c9 QQ DD ca B Tl AA 5 0 0 (M) 3 [(4, .int (nI i)), (0, .ref (B + 709)), (1, .int (nI c)), (2, .int (nI t)), (3, .int y)] [] := by
    intro ni
    induction ni with
    | zero =>
      intro i hni hyi
      refine g_iload F dX9_rowUpTo_3 0 rfl ?_
      refine g_iload_n F dX9_rowUpTo_5 rfl 3 rfl ?_
      refine g_icmpN_gt F 28 dX9_rowUpTo_6 (by decide) (i) (t) rfl rfl (by omega) (by omega) (fun hci => ?_) (fun hci => ?_)
      · have e0 : i = W := by rw [show t + 1 - i = 0 by omega, upR] at hyi; omega
        refine g_iload F dX9_rowUpTo_28 0 rfl ?_
        exact K _ _ _ _ dX9_rowUpTo_30 rfl ⟨by rw [e0], rfl⟩
      · exact absurd hci (by omega)
    | succ ni ihi =>
      intro i hni hyi
      refine g_iload F dX9_rowUpTo_3 0 rfl ?_
      refine g_iload_n F dX9_rowUpTo_5 rfl 3 rfl ?_
      refine g_icmpN_gt F 28 dX9_rowUpTo_6 (by decide) (i) (t) rfl rfl (by omega) (by omega) (fun hci => ?_) (fun hci => ?_)
      · exact absurd hci (by omega)
      · refine g_aload_n F dX9_rowUpTo_9 rfl 1 rfl ?_
        refine g_iload_n F dX9_rowUpTo_10 rfl 2 rfl ?_
        refine g_iload_n F dX9_rowUpTo_11 rfl 3 rfl ?_
        refine g_iload F dX9_rowUpTo_12 0 rfl ?_
        refine g_isub F dX9_rowUpTo_14 ?_
        refine g_top (pk_sub (a := t) (b := i) (by omega)) ?_
        refine g_callV F (kX9_readingIn l (c := c) (t := (t - i)) (by omega) (by omega)) (cwV 2 F.1.2.2.2.2 gX9_rowUpTo_X9_readingIn rfl rfl rfl (by decide +kernel) ⟨Nat.le_of_ble_eq_true rfl, Nat.le_of_ble_eq_true rfl⟩) r709 (by decide) rfl rfl rfl rfl (Nat.le_of_ble_eq_true rfl) dX9_rowUpTo_15 ⟨Nat.le_of_ble_eq_true rfl, Nat.le_of_ble_eq_true rfl⟩ (g_det ?_)
        refine g_iload_n F dX9_rowUpTo_18 rfl 4 rfl ?_
        refine g_icmp_lt F 28 dX9_rowUpTo_19 (by decide) (fun h2 => ?_) (fun h2 => ?_)
        · have e0 : i = W := by rw [show t + 1 - i = (t + 1 - (i + 1)) + 1 by omega, upR, if_pos (by rw [show rgR (M 710) c (t + 1 - (i + 1)) = M 710 (172 + 96 * c + (t - i)) by rw [show t + 1 - (i + 1) = t - i by omega]]; exact h2)] at hyi; omega
          refine g_iload F dX9_rowUpTo_28 0 rfl ?_
          exact K _ _ _ _ dX9_rowUpTo_30 rfl ⟨by rw [e0], rfl⟩
        · refine g_iinc F (lv2 := [(4, _), (0, _), (1, _), (2, _), (3, _)]) dX9_rowUpTo_22 0 rfl (nI_1 _) (by decide) rfl ?_
          refine g_goto F 3 dX9_rowUpTo_25 (by decide) ?_
          refine g_lv (lv2 := [(4, _), (0, _), (1, _), (2, _), (3, _)]) [0, 1, 2, 3, 4] rfl ?_
          exact g_is rfl rfl (ihi (i + 1) (by omega) (by rw [show t + 1 - i = (t + 1 - (i + 1)) + 1 by omega, upR, if_neg (by rw [show rgR (M 710) c (t + 1 - (i + 1)) = M 710 (172 + 96 * c + (t - i)) by rw [show t + 1 - (i + 1) = t - i by omega]]; exact h2)] at hyi; omega))
  refine g_lv (lv2 := [(4, _), (0, _), (1, _), (2, _), (3, _)]) [0, 1, 2, 3, 4] rfl ?_
  exact g_is rfl rfl (LP ((t + 1) - 0) (0) (by omega) (by rw [Nat.sub_zero, Nat.zero_add]; exact hW))

abbrev rmX9_noteDown : Room := { frames := 1, cells := 0, slots := 0, locals := 24 }
theorem iX9_noteDown_9 : ∀ w ∈ u_ws RX9 TX9 15, w ∈ wsX9_noteDown := by decide +kernel
set_option maxHeartbeats 300000 in
set_option maxRecDepth 100000 in
theorem kX9_noteDown (l : Launch) {M : Mm} {t : Nat} (ht : t < 96) (h9t : M 710 74 = nI t) (hne : ∀ c, c < 8 → ¬ M 710 (16 + c) = 0) : Ct l yX9_noteDown wsX9_noteDown rmX9_noteDown (fun B => [.ref (B + 709)]) M (fun _ v u => v = none ∧ u = va_up M 710 (ndR (M 710) t 8)) := by
  refine Ct.ofV (own := RX9) (by decide +kernel) rfl rfl (fun B => Nat.le_of_ble_eq_true rfl) ?_
  intro pp ee ss mm aa bb me c9 DD ca B Tl AA QQ F K
  show G pp l ee rmX9_noteDown ss mm aa bb me c9 QQ DD ca B Tl AA 2 0 0 M 0 [(0, .ref (B + 709))] []
  refine g_aload_n F dX9_noteDown_0 rfl 0 rfl ?_
  refine gg9_state F iX9_noteDown_9 r709 (by decide +kernel) dX9_noteDown_1 ?_
  refine g_sipush F (v := 1708) dX9_noteDown_4 (by decide +kernel) ?_
  refine g_aload_n F dX9_noteDown_7 rfl 0 rfl ?_
  refine gg9_state F iX9_noteDown_9 r709 (by decide +kernel) dX9_noteDown_8 ?_
  refine g_bipush F (v := 74) dX9_noteDown_11 (by decide +kernel) ?_
  refine g_iaload (r := 710) F a710 (74) rfl (by omega) (by decide) dX9_noteDown_13 ?_
  refine g_top h9t ?_
  refine g_iadd F dX9_noteDown_14 ?_
  refine g_top (nI_add (1708) (t)) ?_
  refine g_aload_n F dX9_noteDown_15 rfl 0 rfl ?_
  refine g_aload_n F dX9_noteDown_16 rfl 0 rfl ?_
  refine gg9_state F iX9_noteDown_9 r709 (by decide +kernel) dX9_noteDown_17 ?_
  refine g_bipush F (v := 74) dX9_noteDown_20 (by decide +kernel) ?_
  refine g_iaload (r := 710) F a710 (74) rfl (by omega) (by decide) dX9_noteDown_22 ?_
  refine g_top h9t ?_
  refine g_callV F (kX9_greyIn l (t := t) (by omega)) (cwV 1 F.1.2.2.2.2 gX9_noteDown_X9_greyIn rfl rfl rfl (by decide +kernel) ⟨Nat.le_of_ble_eq_true rfl, Nat.le_of_ble_eq_true rfl⟩) r709 (by decide) rfl rfl rfl rfl (Nat.le_of_ble_eq_true rfl) dX9_noteDown_23 ⟨Nat.le_of_ble_eq_true rfl, Nat.le_of_ble_eq_true rfl⟩ (g_det ?_)
  refine g_iastore (r := 710) F a710 ((1708 + t)) rfl (by omega) (by decide) dX9_noteDown_26 ?_
  refine g_iconst F (v := 0) dX9_noteDown_27 (by decide) ?_
  refine g_istore_n F (lv2 := [(1, _), (0, _)]) dX9_noteDown_28 rfl (by decide) rfl ?_
  have LP : ∀ (ni i : Nat), i + ni = 8 → G pp l ee rmX9_noteDown ss mm aa bb me c9 QQ DD ca B Tl AA 2 0 0 (va_up M 710 (ndR (M 710) t i)) 29 [(1, .int (nI i)), (0, .ref (B + 709))] [] := by
    intro ni
    induction ni with
    | zero =>
      intro i hni
      refine g_iload_n F dX9_noteDown_29 rfl 0 rfl ?_
      refine g_bipush F (v := 8) dX9_noteDown_30 (by decide +kernel) ?_
      refine g_icmpN_ge F 74 dX9_noteDown_32 (by decide) (i) (8) rfl rfl (by omega) (by omega) (fun hci => ?_) (fun hci => ?_)
      · obtain rfl : i = 8 := by omega
        exact K _ _ _ dX9_noteDown_74 ⟨rfl, rfl⟩
      · exact absurd hci (by omega)
    | succ ni ihi =>
      intro i hni
      refine g_iload_n F dX9_noteDown_29 rfl 0 rfl ?_
      refine g_bipush F (v := 8) dX9_noteDown_30 (by decide +kernel) ?_
      refine g_icmpN_ge F 74 dX9_noteDown_32 (by decide) (i) (8) rfl rfl (by omega) (by omega) (fun hci => ?_) (fun hci => ?_)
      · exact absurd hci (by omega)
      · refine g_aload_n F dX9_noteDown_35 rfl 1 rfl ?_
        refine gg9_state F iX9_noteDown_9 r709 (by decide +kernel) dX9_noteDown_36 ?_
        refine g_sipush F (v := 940) dX9_noteDown_39 (by decide +kernel) ?_
        refine g_bipush F (v := 96) dX9_noteDown_42 (by decide +kernel) ?_
        refine g_iload_n F dX9_noteDown_44 rfl 0 rfl ?_
        refine g_imul F dX9_noteDown_45 ?_
        refine g_top (pk_mul (96) (i)) ?_
        refine g_iadd F dX9_noteDown_46 ?_
        refine g_top (nI_add (940) ((96 * i))) ?_
        refine g_aload_n F dX9_noteDown_47 rfl 1 rfl ?_
        refine gg9_state F iX9_noteDown_9 r709 (by decide +kernel) dX9_noteDown_48 ?_
        refine g_bipush F (v := 74) dX9_noteDown_51 (by decide +kernel) ?_
        refine g_iaload (r := 710) F a710 (74) rfl (by omega) (by decide) dX9_noteDown_53 ?_
        refine g_top (y := nI t) (by rw [va_up_self, ndR_lo _ _ (by decide)]; exact h9t) ?_
        refine g_iadd F dX9_noteDown_54 ?_
        refine g_top (nI_add ((940 + (96 * i))) (t)) ?_
        refine g_aload_n F dX9_noteDown_55 rfl 1 rfl ?_
        refine g_iload_n F dX9_noteDown_56 rfl 0 rfl ?_
        refine g_aload_n F dX9_noteDown_57 rfl 1 rfl ?_
        refine gg9_state F iX9_noteDown_9 r709 (by decide +kernel) dX9_noteDown_58 ?_
        refine g_bipush F (v := 74) dX9_noteDown_61 (by decide +kernel) ?_
        refine g_iaload (r := 710) F a710 (74) rfl (by omega) (by decide) dX9_noteDown_63 ?_
        refine g_top (y := nI t) (by rw [va_up_self, ndR_lo _ _ (by decide)]; exact h9t) ?_
        refine g_callV F (kX9_shade l (M := va_up M 710 (ndR (M 710) t i)) (c := i) (by omega) (by rw [va_up_self, ndR_lo _ _ (by omega)]; exact hne i (by omega)) _) (cwV 2 F.1.2.2.2.2 gX9_noteDown_X9_shade rfl rfl rfl (by decide +kernel) ⟨Nat.le_of_ble_eq_true rfl, Nat.le_of_ble_eq_true rfl⟩) r709 (by decide) rfl rfl rfl rfl (Nat.le_of_ble_eq_true rfl) dX9_noteDown_64 ⟨Nat.le_of_ble_eq_true rfl, Nat.le_of_ble_eq_true rfl⟩ (g_det ?_)
        refine g_top (congrArg (fun f => shR f i (nI t)) (va_up_self M 710 (ndR (M 710) t i))) ?_
        refine g_iastore (r := 710) F a710 (((940 + (96 * i)) + t)) rfl (by omega) (by decide) dX9_noteDown_67 ?_
        refine g_iinc F (lv2 := [(1, _), (0, _)]) dX9_noteDown_68 0 rfl (nI_1 _) (by decide) rfl ?_
        refine g_goto F 29 dX9_noteDown_71 (by decide) ?_
        refine g_lv (lv2 := [(1, _), (0, _)]) [0, 1] rfl ?_
        exact g_is (by rw [bx_uu, va_up_self]; rfl) rfl (ihi (i + 1) (by omega))
  refine g_lv (lv2 := [(1, _), (0, _)]) [0, 1] rfl ?_
  exact g_is rfl rfl (LP (8 - 0) (0) (by omega))

abbrev rmX9_watches : Room := { frames := 2, cells := 0, slots := 0, locals := 48 }
theorem iX9_watches_9 : ∀ w ∈ u_ws RX9 TX9 15, w ∈ wsX9_watches := by decide +kernel
set_option maxHeartbeats 300000 in
set_option maxRecDepth 100000 in
theorem kX9_watches (l : Launch) {M : Mm} {t k : Nat} (hk : k < 3) (ht : t < 96) (h9t : M 710 74 = nI t) (hne : ∀ c, c < 8 → ¬ M 710 (16 + c) = 0) (hW : M 710 (62 + k) = -1 ∨ ∃ c, c < 8 ∧ M 710 (62 + k) = nI c) : Ct l yX9_watches wsX9_watches rmX9_watches (fun B => [.ref (B + 709), .int (nI k)]) M (fun _ v u => v = none ∧ u = va_up M 710 (waR (M 710) t k)) := by
  refine Ct.ofV (own := RX9) (by decide +kernel) rfl rfl (fun B => Nat.le_of_ble_eq_true rfl) ?_
  intro pp ee ss mm aa bb me c9 DD ca B Tl AA QQ F K
  show G pp l ee rmX9_watches ss mm aa bb me c9 QQ DD ca B Tl AA 6 0 0 M 0 [(0, .ref (B + 709)), (1, .int (nI k))] []
  refine g_aload_n F dX9_watches_0 rfl 0 rfl ?_
  refine gg9_state F iX9_watches_9 r709 (by decide +kernel) dX9_watches_1 ?_
  refine g_bipush F (v := 62) dX9_watches_4 (by decide +kernel) ?_
  refine g_iload_n F dX9_watches_6 rfl 1 rfl ?_
  refine g_iadd F dX9_watches_7 ?_
  refine g_top (nI_add (62) (k)) ?_
  refine g_iaload (r := 710) F a710 ((62 + k)) rfl (by omega) (by decide) dX9_watches_8 ?_
  refine g_istore_n F (lv2 := [(2, _), (0, _), (1, _)]) dX9_watches_9 rfl (by decide) rfl ?_
  refine g_iload_n F dX9_watches_10 rfl 0 rfl ?_
  refine g_iconst F (v := -1) dX9_watches_11 (by decide) ?_
  refine g_icmp_ne F 16 dX9_watches_12 (by decide) (fun h1 => ?_) (fun h1 => ?_)
  · obtain ⟨c, hc, ec⟩ := hW.resolve_left h1
    rw [ec]
    have e0 : waR (M 710) t k = waC (M 710) t k c := by rw [waR, if_neg h1, ec, nI_clamp (by omega)]
    refine g_aload_n F dX9_watches_16 rfl 1 rfl ?_
    refine g_iload_n F dX9_watches_17 rfl 2 rfl ?_
    refine g_iload_n F dX9_watches_18 rfl 0 rfl ?_
    refine g_callV F (kX9_reads l (k := k) (c := c) (by omega) (by omega) ht h9t (hne c hc)) (cwV 2 F.1.2.2.2.2 gX9_watches_X9_reads rfl rfl rfl (by decide +kernel) ⟨Nat.le_of_ble_eq_true rfl, Nat.le_of_ble_eq_true rfl⟩) r709 (by decide) rfl rfl rfl rfl (Nat.le_of_ble_eq_true rfl) dX9_watches_19 ⟨Nat.le_of_ble_eq_true rfl, Nat.le_of_ble_eq_true rfl⟩ (g_det ?_)
    refine g_istore_n F (lv2 := [(3, _), (2, _), (0, _), (1, _)]) dX9_watches_22 rfl (by decide) rfl ?_
    refine g_iload_n F dX9_watches_23 rfl 0 rfl ?_
    refine g_aload_n F dX9_watches_24 rfl 2 rfl ?_
    refine g_iload_n F dX9_watches_25 rfl 1 rfl ?_
    refine g_aload_n F dX9_watches_26 rfl 2 rfl ?_
    refine gg9_state F iX9_watches_9 r709 (by decide +kernel) dX9_watches_27 ?_
    refine g_bipush F (v := 74) dX9_watches_30 (by decide +kernel) ?_
    refine g_iaload (r := 710) F a710 (74) rfl (by omega) (by decide) dX9_watches_32 ?_
    refine g_callV F (kX9_shade l (c := c) (by omega) (hne c hc) _) (cwV 2 F.1.2.2.2.2 gX9_watches_X9_shade rfl rfl rfl (by decide +kernel) ⟨Nat.le_of_ble_eq_true rfl, Nat.le_of_ble_eq_true rfl⟩) r709 (by decide) rfl rfl rfl rfl (Nat.le_of_ble_eq_true rfl) dX9_watches_33 ⟨Nat.le_of_ble_eq_true rfl, Nat.le_of_ble_eq_true rfl⟩ (g_det ?_)
    refine g_isub F dX9_watches_36 ?_
    refine g_istore F (lv2 := [(4, _), (3, _), (2, _), (0, _), (1, _)]) dX9_watches_37 (by decide) rfl ?_
    refine g_sipush F (v := 172) dX9_watches_39 (by decide +kernel) ?_
    refine g_bipush F (v := 96) dX9_watches_42 (by decide +kernel) ?_
    refine g_iload_n F dX9_watches_44 rfl 2 rfl ?_
    refine g_imul F dX9_watches_45 ?_
    refine g_top (pk_mul (96) (c)) ?_
    refine g_iadd F dX9_watches_46 ?_
    refine g_top (nI_add (172) ((96 * c))) ?_
    refine g_aload_n F dX9_watches_47 rfl 3 rfl ?_
    refine gg9_state F iX9_watches_9 r709 (by decide +kernel) dX9_watches_48 ?_
    refine g_bipush F (v := 74) dX9_watches_51 (by decide +kernel) ?_
    refine g_iaload (r := 710) F a710 (74) rfl (by omega) (by decide) dX9_watches_53 ?_
    refine g_top h9t ?_
    refine g_iadd F dX9_watches_54 ?_
    refine g_top (nI_add ((172 + (96 * c))) (t)) ?_
    refine g_istore F (lv2 := [(5, _), (4, _), (3, _), (2, _), (0, _), (1, _)]) dX9_watches_55 (by decide) rfl ?_
    refine g_aload_n F dX9_watches_57 rfl 4 rfl ?_
    refine gg9_state F iX9_watches_9 r709 (by decide +kernel) dX9_watches_58 ?_
    refine g_iload F dX9_watches_61 0 rfl ?_
    refine g_iload_n F dX9_watches_63 rfl 2 rfl ?_
    refine g_aload_n F dX9_watches_64 rfl 4 rfl ?_
    refine gg9_state F iX9_watches_9 r709 (by decide +kernel) dX9_watches_65 ?_
    refine g_iload F dX9_watches_68 0 rfl ?_
    refine g_iaload (r := 710) F a710 (((172 + (96 * c)) + t)) rfl (by omega) (by decide) dX9_watches_70 ?_
    refine g_icmp_le F 78 dX9_watches_71 (by decide) (fun h2 => ?_) (fun h2 => ?_)
    · refine g_aload_n F dX9_watches_78 rfl 4 rfl ?_
      refine gg9_state F iX9_watches_9 r709 (by decide +kernel) dX9_watches_79 ?_
      refine g_iload F dX9_watches_82 0 rfl ?_
      refine g_iaload (r := 710) F a710 (((172 + (96 * c)) + t)) rfl (by omega) (by decide) dX9_watches_84 ?_
      refine g_top (y := if M 710 (172 + 96 * c + t) < rdgR (M 710) t k c then rdgR (M 710) t k c else M 710 (172 + 96 * c + t)) (by first | exact (if_neg (Int32.not_lt.mpr h2)).symm | exact (if_pos (Int32.not_le.mp h2)).symm) ?_
      refine g_iastore (r := 710) F a710 (((172 + (96 * c)) + t)) rfl (by omega) (by decide) dX9_watches_85 ?_
      try simp only [bx_uu, va_up_self]
      refine g_aload_n F dX9_watches_86 rfl 4 rfl ?_
      refine gg9_state F iX9_watches_9 r709 (by decide +kernel) dX9_watches_87 ?_
      refine g_bipush F (v := 65) dX9_watches_90 (by decide +kernel) ?_
      refine g_iload_n F dX9_watches_92 rfl 5 rfl ?_
      refine g_iadd F dX9_watches_93 ?_
      refine g_top (nI_add (65) (k)) ?_
      refine g_dup2 F dX9_watches_94 rfl rfl ?_
      refine g_iaload (r := 710) F a710 ((65 + k)) rfl (by omega) (by decide) dX9_watches_95 ?_
      refine g_iload F dX9_watches_96 1 rfl ?_
      refine g_if_ge F 107 dX9_watches_98 (by decide) (fun h3 => ?_) (fun h3 => ?_)
      · refine g_iload F dX9_watches_107 1 rfl ?_
        refine g_top (y := if (rdgR (M 710) t k c - shR (M 710) c (M 710 74)) < 0 then -(rdgR (M 710) t k c - shR (M 710) c (M 710 74)) else (rdgR (M 710) t k c - shR (M 710) c (M 710 74))) (by first | exact (if_neg (Int32.not_lt.mpr h3)).symm | exact (if_pos (Int32.not_le.mp h3)).symm) ?_
        refine g_iadd F dX9_watches_109 ?_
        refine g_iastore (r := 710) F a710 ((65 + k)) rfl (by omega) (by decide) dX9_watches_110 ?_
        try simp only [bx_uu, va_up_self]
        refine g_aload_n F dX9_watches_111 rfl 4 rfl ?_
        refine gg9_state F iX9_watches_9 r709 (by decide +kernel) dX9_watches_112 ?_
        refine g_bipush F (v := 68) dX9_watches_115 (by decide +kernel) ?_
        refine g_iload_n F dX9_watches_117 rfl 5 rfl ?_
        refine g_iadd F dX9_watches_118 ?_
        refine g_top (nI_add (68) (k)) ?_
        refine g_dup2 F dX9_watches_119 rfl rfl ?_
        refine g_iaload (r := 710) F a710 ((68 + k)) rfl (by omega) (by decide) dX9_watches_120 ?_
        refine g_iconst F (v := 1) dX9_watches_121 (by decide) ?_
        refine g_iadd F dX9_watches_122 ?_
        refine g_iastore (r := 710) F a710 ((68 + k)) rfl (by omega) (by decide) dX9_watches_123 ?_
        try simp only [bx_uu, va_up_self]
        exact K _ _ _ dX9_watches_124 ⟨rfl, by first | (rw [e0]; rfl) | (rw [e0]; exact (up_id M 710).symm)⟩
      · refine g_iload F dX9_watches_101 1 rfl ?_
        refine g_ineg F dX9_watches_103 ?_
        refine g_goto F 109 dX9_watches_104 (by decide) ?_
        refine g_top (y := if (rdgR (M 710) t k c - shR (M 710) c (M 710 74)) < 0 then -(rdgR (M 710) t k c - shR (M 710) c (M 710 74)) else (rdgR (M 710) t k c - shR (M 710) c (M 710 74))) (by first | exact (if_neg (Int32.not_lt.mpr h3)).symm | exact (if_pos (Int32.not_le.mp h3)).symm) ?_
        refine g_iadd F dX9_watches_109 ?_
        refine g_iastore (r := 710) F a710 ((65 + k)) rfl (by omega) (by decide) dX9_watches_110 ?_
        try simp only [bx_uu, va_up_self]
        refine g_aload_n F dX9_watches_111 rfl 4 rfl ?_
        refine gg9_state F iX9_watches_9 r709 (by decide +kernel) dX9_watches_112 ?_
        refine g_bipush F (v := 68) dX9_watches_115 (by decide +kernel) ?_
        refine g_iload_n F dX9_watches_117 rfl 5 rfl ?_
        refine g_iadd F dX9_watches_118 ?_
        refine g_top (nI_add (68) (k)) ?_
        refine g_dup2 F dX9_watches_119 rfl rfl ?_
        refine g_iaload (r := 710) F a710 ((68 + k)) rfl (by omega) (by decide) dX9_watches_120 ?_
        refine g_iconst F (v := 1) dX9_watches_121 (by decide) ?_
        refine g_iadd F dX9_watches_122 ?_
        refine g_iastore (r := 710) F a710 ((68 + k)) rfl (by omega) (by decide) dX9_watches_123 ?_
        try simp only [bx_uu, va_up_self]
        exact K _ _ _ dX9_watches_124 ⟨rfl, by first | (rw [e0]; rfl) | (rw [e0]; exact (up_id M 710).symm)⟩
    · refine g_iload_n F dX9_watches_74 rfl 2 rfl ?_
      refine g_goto F 85 dX9_watches_75 (by decide) ?_
      refine g_top (y := if M 710 (172 + 96 * c + t) < rdgR (M 710) t k c then rdgR (M 710) t k c else M 710 (172 + 96 * c + t)) (by first | exact (if_neg (Int32.not_lt.mpr h2)).symm | exact (if_pos (Int32.not_le.mp h2)).symm) ?_
      refine g_iastore (r := 710) F a710 (((172 + (96 * c)) + t)) rfl (by omega) (by decide) dX9_watches_85 ?_
      try simp only [bx_uu, va_up_self]
      refine g_aload_n F dX9_watches_86 rfl 4 rfl ?_
      refine gg9_state F iX9_watches_9 r709 (by decide +kernel) dX9_watches_87 ?_
      refine g_bipush F (v := 65) dX9_watches_90 (by decide +kernel) ?_
      refine g_iload_n F dX9_watches_92 rfl 5 rfl ?_
      refine g_iadd F dX9_watches_93 ?_
      refine g_top (nI_add (65) (k)) ?_
      refine g_dup2 F dX9_watches_94 rfl rfl ?_
      refine g_iaload (r := 710) F a710 ((65 + k)) rfl (by omega) (by decide) dX9_watches_95 ?_
      refine g_iload F dX9_watches_96 1 rfl ?_
      refine g_if_ge F 107 dX9_watches_98 (by decide) (fun h3 => ?_) (fun h3 => ?_)
      · refine g_iload F dX9_watches_107 1 rfl ?_
        refine g_top (y := if (rdgR (M 710) t k c - shR (M 710) c (M 710 74)) < 0 then -(rdgR (M 710) t k c - shR (M 710) c (M 710 74)) else (rdgR (M 710) t k c - shR (M 710) c (M 710 74))) (by first | exact (if_neg (Int32.not_lt.mpr h3)).symm | exact (if_pos (Int32.not_le.mp h3)).symm) ?_
        refine g_iadd F dX9_watches_109 ?_
        refine g_iastore (r := 710) F a710 ((65 + k)) rfl (by omega) (by decide) dX9_watches_110 ?_
        try simp only [bx_uu, va_up_self]
        refine g_aload_n F dX9_watches_111 rfl 4 rfl ?_
        refine gg9_state F iX9_watches_9 r709 (by decide +kernel) dX9_watches_112 ?_
        refine g_bipush F (v := 68) dX9_watches_115 (by decide +kernel) ?_
        refine g_iload_n F dX9_watches_117 rfl 5 rfl ?_
        refine g_iadd F dX9_watches_118 ?_
        refine g_top (nI_add (68) (k)) ?_
        refine g_dup2 F dX9_watches_119 rfl rfl ?_
        refine g_iaload (r := 710) F a710 ((68 + k)) rfl (by omega) (by decide) dX9_watches_120 ?_
        refine g_iconst F (v := 1) dX9_watches_121 (by decide) ?_
        refine g_iadd F dX9_watches_122 ?_
        refine g_iastore (r := 710) F a710 ((68 + k)) rfl (by omega) (by decide) dX9_watches_123 ?_
        try simp only [bx_uu, va_up_self]
        exact K _ _ _ dX9_watches_124 ⟨rfl, by first | (rw [e0]; rfl) | (rw [e0]; exact (up_id M 710).symm)⟩
      · refine g_iload F dX9_watches_101 1 rfl ?_
        refine g_ineg F dX9_watches_103 ?_
        refine g_goto F 109 dX9_watches_104 (by decide) ?_
        refine g_top (y := if (rdgR (M 710) t k c - shR (M 710) c (M 710 74)) < 0 then -(rdgR (M 710) t k c - shR (M 710) c (M 710 74)) else (rdgR (M 710) t k c - shR (M 710) c (M 710 74))) (by first | exact (if_neg (Int32.not_lt.mpr h3)).symm | exact (if_pos (Int32.not_le.mp h3)).symm) ?_
        refine g_iadd F dX9_watches_109 ?_
        refine g_iastore (r := 710) F a710 ((65 + k)) rfl (by omega) (by decide) dX9_watches_110 ?_
        try simp only [bx_uu, va_up_self]
        refine g_aload_n F dX9_watches_111 rfl 4 rfl ?_
        refine gg9_state F iX9_watches_9 r709 (by decide +kernel) dX9_watches_112 ?_
        refine g_bipush F (v := 68) dX9_watches_115 (by decide +kernel) ?_
        refine g_iload_n F dX9_watches_117 rfl 5 rfl ?_
        refine g_iadd F dX9_watches_118 ?_
        refine g_top (nI_add (68) (k)) ?_
        refine g_dup2 F dX9_watches_119 rfl rfl ?_
        refine g_iaload (r := 710) F a710 ((68 + k)) rfl (by omega) (by decide) dX9_watches_120 ?_
        refine g_iconst F (v := 1) dX9_watches_121 (by decide) ?_
        refine g_iadd F dX9_watches_122 ?_
        refine g_iastore (r := 710) F a710 ((68 + k)) rfl (by omega) (by decide) dX9_watches_123 ?_
        try simp only [bx_uu, va_up_self]
        exact K _ _ _ dX9_watches_124 ⟨rfl, by first | (rw [e0]; rfl) | (rw [e0]; exact (up_id M 710).symm)⟩
  · have e0 : waR (M 710) t k = M 710 := if_pos (by first | exact h1 | exact Decidable.not_not.mp h1)
    exact K _ _ _ dX9_watches_15 ⟨rfl, by first | (rw [e0]; rfl) | (rw [e0]; exact (up_id M 710).symm)⟩

abbrev rmX9_whyFor : Room := { frames := 0, cells := 0, slots := 0, locals := 0 }
theorem iX9_whyFor_9 : ∀ w ∈ u_ws RX9 TX9 15, w ∈ wsX9_whyFor := by decide +kernel
set_option maxHeartbeats 300000 in
set_option maxRecDepth 100000 in
theorem kX9_whyFor (l : Launch) {M : Mm} {t p c : Nat} (hc : c < 8) (ht : t < 96) (h9t : M 710 74 = nI t) (hp1 : p ≤ t + 1) (hp : M 710 72 = nI p) : Ct l yX9_whyFor wsX9_whyFor rmX9_whyFor (fun B => [.ref (B + 709), .int (nI c)]) M (fun _ v u => v = some (.int (whR (M 710) c (t + 1 - p) p)) ∧ u = M) := by
  refine Ct.ofI (own := RX9) (by decide +kernel) rfl rfl (fun B => Nat.le_of_ble_eq_true rfl) ?_
  intro pp ee ss mm aa bb me c9 DD ca B Tl AA QQ F K
  show G pp l ee rmX9_whyFor ss mm aa bb me c9 QQ DD ca B Tl AA 5 0 0 M 0 [(0, .ref (B + 709)), (1, .int (nI c))] []
  refine g_iconst F (v := 2) dX9_whyFor_0 (by decide) ?_
  refine g_istore_n F (lv2 := [(2, _), (0, _), (1, _)]) dX9_whyFor_1 rfl (by decide) rfl ?_
  refine g_aload_n F dX9_whyFor_2 rfl 1 rfl ?_
  refine gg9_state F iX9_whyFor_9 r709 (by decide +kernel) dX9_whyFor_3 ?_
  refine g_bipush F (v := 74) dX9_whyFor_6 (by decide +kernel) ?_
  refine g_iaload (r := 710) F a710 (74) rfl (by omega) (by decide) dX9_whyFor_8 ?_
  refine g_top h9t ?_
  refine g_aload_n F dX9_whyFor_9 rfl 1 rfl ?_
  refine gg9_state F iX9_whyFor_9 r709 (by decide +kernel) dX9_whyFor_10 ?_
  refine g_bipush F (v := 72) dX9_whyFor_13 (by decide +kernel) ?_
  refine g_iaload (r := 710) F a710 (72) rfl (by omega) (by decide) dX9_whyFor_15 ?_
  refine g_top hp ?_
  refine g_isub F dX9_whyFor_16 ?_
  refine g_iconst F (v := 1) dX9_whyFor_17 (by decide) ?_
  refine g_iadd F dX9_whyFor_18 ?_
  refine g_top (y := nI (t + 1 - p)) (sub_1 (by omega) (by omega)) ?_
  refine g_istore_n F (lv2 := [(3, _), (2, _), (0, _), (1, _)]) dX9_whyFor_19 rfl (by decide) rfl ?_
  have LP : ∀ (ni i : Nat), i + ni = p → G pp l ee rmX9_whyFor ss mm aa bb me c9 QQ DD ca B Tl AA 5 0 0 (M) 20 [(3, .int (nI (t + 1 - p + i))), (0, .ref (B + 709)), (1, .int (nI c)), (2, .int (whR (M 710) c (t + 1 - p) i))] [] := by
    intro ni
    induction ni with
    | zero =>
      intro i hni
      refine g_iload_n F dX9_whyFor_20 rfl 0 rfl ?_
      refine g_aload_n F dX9_whyFor_21 rfl 1 rfl ?_
      refine gg9_state F iX9_whyFor_9 r709 (by decide +kernel) dX9_whyFor_22 ?_
      refine g_bipush F (v := 74) dX9_whyFor_25 (by decide +kernel) ?_
      refine g_iaload (r := 710) F a710 (74) rfl (by omega) (by decide) dX9_whyFor_27 ?_
      refine g_top h9t ?_
      refine g_icmpN_gt F 103 dX9_whyFor_28 (by decide) ((t + 1 - p + i)) (t) rfl rfl (by omega) (by omega) (fun hci => ?_) (fun hci => ?_)
      · obtain rfl : i = p := by omega
        refine g_iload_n F dX9_whyFor_103 rfl 3 rfl ?_
        exact K _ _ _ _ dX9_whyFor_104 rfl ⟨rfl, rfl⟩
      · exact absurd hci (by omega)
    | succ ni ihi =>
      intro i hni
      refine g_iload_n F dX9_whyFor_20 rfl 0 rfl ?_
      refine g_aload_n F dX9_whyFor_21 rfl 1 rfl ?_
      refine gg9_state F iX9_whyFor_9 r709 (by decide +kernel) dX9_whyFor_22 ?_
      refine g_bipush F (v := 74) dX9_whyFor_25 (by decide +kernel) ?_
      refine g_iaload (r := 710) F a710 (74) rfl (by omega) (by decide) dX9_whyFor_27 ?_
      refine g_top h9t ?_
      refine g_icmpN_gt F 103 dX9_whyFor_28 (by decide) ((t + 1 - p + i)) (t) rfl rfl (by omega) (by omega) (fun hci => ?_) (fun hci => ?_)
      · exact absurd hci (by omega)
      · refine g_aload_n F dX9_whyFor_31 rfl 1 rfl ?_
        refine gg9_state F iX9_whyFor_9 r709 (by decide +kernel) dX9_whyFor_32 ?_
        refine g_sipush F (v := 940) dX9_whyFor_35 (by decide +kernel) ?_
        refine g_bipush F (v := 96) dX9_whyFor_38 (by decide +kernel) ?_
        refine g_iload_n F dX9_whyFor_40 rfl 2 rfl ?_
        refine g_imul F dX9_whyFor_41 ?_
        refine g_top (pk_mul (96) (c)) ?_
        refine g_iadd F dX9_whyFor_42 ?_
        refine g_top (nI_add (940) ((96 * c))) ?_
        refine g_iload_n F dX9_whyFor_43 rfl 0 rfl ?_
        refine g_iadd F dX9_whyFor_44 ?_
        refine g_top (nI_add ((940 + (96 * c))) ((t + 1 - p + i))) ?_
        refine g_iaload (r := 710) F a710 (((940 + (96 * c)) + (t + 1 - p + i))) rfl (by omega) (by decide) dX9_whyFor_45 ?_
        refine g_aload_n F dX9_whyFor_46 rfl 1 rfl ?_
        refine gg9_state F iX9_whyFor_9 r709 (by decide +kernel) dX9_whyFor_47 ?_
        refine g_bipush F (v := 71) dX9_whyFor_50 (by decide +kernel) ?_
        refine g_iaload (r := 710) F a710 (71) rfl (by omega) (by decide) dX9_whyFor_52 ?_
        refine g_icmp_ge F 60 dX9_whyFor_53 (by decide) (fun h2 => ?_) (fun h2 => ?_)
        · refine g_iconst F (v := 0) dX9_whyFor_60 (by decide) ?_
          refine g_istore F (lv2 := [(4, _), (3, _), (0, _), (1, _), (2, _)]) dX9_whyFor_61 (by decide) rfl ?_
          refine g_aload_n F dX9_whyFor_63 rfl 2 rfl ?_
          refine gg9_state F iX9_whyFor_9 r709 (by decide +kernel) dX9_whyFor_64 ?_
          refine g_sipush F (v := 1708) dX9_whyFor_67 (by decide +kernel) ?_
          refine g_iload_n F dX9_whyFor_70 rfl 1 rfl ?_
          refine g_iadd F dX9_whyFor_71 ?_
          refine g_top (nI_add (1708) ((t + 1 - p + i))) ?_
          refine g_iaload (r := 710) F a710 ((1708 + (t + 1 - p + i))) rfl (by omega) (by decide) dX9_whyFor_72 ?_
          refine g_iconst F (v := 2) dX9_whyFor_73 (by decide) ?_
          refine g_icmp_le F 81 dX9_whyFor_74 (by decide) (fun h3 => ?_) (fun h3 => ?_)
          · refine g_iload F dX9_whyFor_81 0 rfl ?_
            refine g_if_eq F 95 dX9_whyFor_83 (by decide) (fun h9 => ?_) (fun h9 => ?_)
            · refine g_iload_n F dX9_whyFor_95 rfl 4 rfl ?_
              refine g_istore_n F (lv2 := [(2, _), (4, _), (3, _), (0, _), (1, _)]) dX9_whyFor_96 rfl (by decide) rfl ?_
              refine g_iinc F (lv2 := [(3, _), (2, _), (4, _), (0, _), (1, _)]) dX9_whyFor_97 2 rfl (nI_1 _) (by decide) rfl ?_
              refine g_goto F 20 dX9_whyFor_100 (by decide) ?_
              refine g_lv (lv2 := [(3, _), (0, _), (1, _), (2, _)]) [0, 3, 4, 1] rfl ?_
              exact g_is rfl (by rw [whR]; first | (rw [if_pos (Int32.not_le.mp h3)]; rfl) | (rw [if_neg (Int32.not_lt.mpr h3), if_neg (fun z => Int32.not_lt.mpr h2 z.1)]; rfl) | (rw [if_neg (Int32.not_lt.mpr h3), if_neg (fun z => h4 z.2)]; rfl) | (rw [if_neg (Int32.not_lt.mpr h3), if_pos (And.intro (Int32.not_le.mp h2) (Decidable.not_not.mp h4))]; rfl) | (rw [if_neg (Int32.not_lt.mpr h3), if_pos (And.intro (Int32.not_le.mp h2) h4)]; rfl)) (ihi (i + 1) (by omega))
            · exact absurd h9 (by decide)
          · refine g_iconst F (v := 0) dX9_whyFor_77 (by decide) ?_
            refine g_goto F 96 dX9_whyFor_78 (by decide) ?_
            refine g_istore_n F (lv2 := [(2, _), (4, _), (3, _), (0, _), (1, _)]) dX9_whyFor_96 rfl (by decide) rfl ?_
            refine g_iinc F (lv2 := [(3, _), (2, _), (4, _), (0, _), (1, _)]) dX9_whyFor_97 2 rfl (nI_1 _) (by decide) rfl ?_
            refine g_goto F 20 dX9_whyFor_100 (by decide) ?_
            refine g_lv (lv2 := [(3, _), (0, _), (1, _), (2, _)]) [0, 3, 4, 1] rfl ?_
            exact g_is rfl (by rw [whR]; first | (rw [if_pos (Int32.not_le.mp h3)]; rfl) | (rw [if_neg (Int32.not_lt.mpr h3), if_neg (fun z => Int32.not_lt.mpr h2 z.1)]; rfl) | (rw [if_neg (Int32.not_lt.mpr h3), if_neg (fun z => h4 z.2)]; rfl) | (rw [if_neg (Int32.not_lt.mpr h3), if_pos (And.intro (Int32.not_le.mp h2) (Decidable.not_not.mp h4))]; rfl) | (rw [if_neg (Int32.not_lt.mpr h3), if_pos (And.intro (Int32.not_le.mp h2) h4)]; rfl)) (ihi (i + 1) (by omega))
        · refine g_iconst F (v := 1) dX9_whyFor_56 (by decide) ?_
          refine g_goto F 61 dX9_whyFor_57 (by decide) ?_
          refine g_istore F (lv2 := [(4, _), (3, _), (0, _), (1, _), (2, _)]) dX9_whyFor_61 (by decide) rfl ?_
          refine g_aload_n F dX9_whyFor_63 rfl 2 rfl ?_
          refine gg9_state F iX9_whyFor_9 r709 (by decide +kernel) dX9_whyFor_64 ?_
          refine g_sipush F (v := 1708) dX9_whyFor_67 (by decide +kernel) ?_
          refine g_iload_n F dX9_whyFor_70 rfl 1 rfl ?_
          refine g_iadd F dX9_whyFor_71 ?_
          refine g_top (nI_add (1708) ((t + 1 - p + i))) ?_
          refine g_iaload (r := 710) F a710 ((1708 + (t + 1 - p + i))) rfl (by omega) (by decide) dX9_whyFor_72 ?_
          refine g_iconst F (v := 2) dX9_whyFor_73 (by decide) ?_
          refine g_icmp_le F 81 dX9_whyFor_74 (by decide) (fun h3 => ?_) (fun h3 => ?_)
          · refine g_iload F dX9_whyFor_81 0 rfl ?_
            refine g_if_eq F 95 dX9_whyFor_83 (by decide) (fun h9 => ?_) (fun h9 => ?_)
            · exact absurd h9 (by decide)
            · refine g_iload_n F dX9_whyFor_86 rfl 4 rfl ?_
              refine g_iconst F (v := 2) dX9_whyFor_87 (by decide) ?_
              refine g_icmp_ne F 95 dX9_whyFor_88 (by decide) (fun h4 => ?_) (fun h4 => ?_)
              · refine g_iload_n F dX9_whyFor_95 rfl 4 rfl ?_
                refine g_istore_n F (lv2 := [(2, _), (4, _), (3, _), (0, _), (1, _)]) dX9_whyFor_96 rfl (by decide) rfl ?_
                refine g_iinc F (lv2 := [(3, _), (2, _), (4, _), (0, _), (1, _)]) dX9_whyFor_97 2 rfl (nI_1 _) (by decide) rfl ?_
                refine g_goto F 20 dX9_whyFor_100 (by decide) ?_
                refine g_lv (lv2 := [(3, _), (0, _), (1, _), (2, _)]) [0, 3, 4, 1] rfl ?_
                exact g_is rfl (by rw [whR]; first | (rw [if_pos (Int32.not_le.mp h3)]; rfl) | (rw [if_neg (Int32.not_lt.mpr h3), if_neg (fun z => Int32.not_lt.mpr h2 z.1)]; rfl) | (rw [if_neg (Int32.not_lt.mpr h3), if_neg (fun z => h4 z.2)]; rfl) | (rw [if_neg (Int32.not_lt.mpr h3), if_pos (And.intro (Int32.not_le.mp h2) (Decidable.not_not.mp h4))]; rfl) | (rw [if_neg (Int32.not_lt.mpr h3), if_pos (And.intro (Int32.not_le.mp h2) h4)]; rfl)) (ihi (i + 1) (by omega))
              · refine g_iconst F (v := 1) dX9_whyFor_91 (by decide) ?_
                refine g_goto F 96 dX9_whyFor_92 (by decide) ?_
                refine g_istore_n F (lv2 := [(2, _), (4, _), (3, _), (0, _), (1, _)]) dX9_whyFor_96 rfl (by decide) rfl ?_
                refine g_iinc F (lv2 := [(3, _), (2, _), (4, _), (0, _), (1, _)]) dX9_whyFor_97 2 rfl (nI_1 _) (by decide) rfl ?_
                refine g_goto F 20 dX9_whyFor_100 (by decide) ?_
                refine g_lv (lv2 := [(3, _), (0, _), (1, _), (2, _)]) [0, 3, 4, 1] rfl ?_
                exact g_is rfl (by rw [whR]; first | (rw [if_pos (Int32.not_le.mp h3)]; rfl) | (rw [if_neg (Int32.not_lt.mpr h3), if_neg (fun z => Int32.not_lt.mpr h2 z.1)]; rfl) | (rw [if_neg (Int32.not_lt.mpr h3), if_neg (fun z => h4 z.2)]; rfl) | (rw [if_neg (Int32.not_lt.mpr h3), if_pos (And.intro (Int32.not_le.mp h2) (Decidable.not_not.mp h4))]; rfl) | (rw [if_neg (Int32.not_lt.mpr h3), if_pos (And.intro (Int32.not_le.mp h2) h4)]; rfl)) (ihi (i + 1) (by omega))
          · refine g_iconst F (v := 0) dX9_whyFor_77 (by decide) ?_
            refine g_goto F 96 dX9_whyFor_78 (by decide) ?_
            refine g_istore_n F (lv2 := [(2, _), (4, _), (3, _), (0, _), (1, _)]) dX9_whyFor_96 rfl (by decide) rfl ?_
            refine g_iinc F (lv2 := [(3, _), (2, _), (4, _), (0, _), (1, _)]) dX9_whyFor_97 2 rfl (nI_1 _) (by decide) rfl ?_
            refine g_goto F 20 dX9_whyFor_100 (by decide) ?_
            refine g_lv (lv2 := [(3, _), (0, _), (1, _), (2, _)]) [0, 3, 4, 1] rfl ?_
            exact g_is rfl (by rw [whR]; first | (rw [if_pos (Int32.not_le.mp h3)]; rfl) | (rw [if_neg (Int32.not_lt.mpr h3), if_neg (fun z => Int32.not_lt.mpr h2 z.1)]; rfl) | (rw [if_neg (Int32.not_lt.mpr h3), if_neg (fun z => h4 z.2)]; rfl) | (rw [if_neg (Int32.not_lt.mpr h3), if_pos (And.intro (Int32.not_le.mp h2) (Decidable.not_not.mp h4))]; rfl) | (rw [if_neg (Int32.not_lt.mpr h3), if_pos (And.intro (Int32.not_le.mp h2) h4)]; rfl)) (ihi (i + 1) (by omega))
  refine g_lv (lv2 := [(3, _), (0, _), (1, _), (2, _)]) [0, 2, 3, 1] rfl ?_
  exact g_is rfl rfl (LP (p - 0) (0) (by omega))
