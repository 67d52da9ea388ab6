theorem r0 : isR 8 0 := ⟨by decide, by decide +kernel⟩
theorem r1 : isR 6 1 := ⟨by decide, by decide +kernel⟩
theorem r71 : isR 6 71 := ⟨by decide, by decide +kernel⟩
theorem r563 : isR 16 563 := ⟨by decide, by decide +kernel⟩
theorem a566 : isA 11 8 566 := ⟨by decide, by decide +kernel, by decide +kernel⟩
theorem nI_max {a b : Nat} (ha : a < 1000) (hb : b < 1000) : mxI (nI a) (nI b) = nI (max a b) := by
  unfold mxI
  by_cases h : a < b
  · rw [if_pos ((nI_ltI (by omega) (by omega)).mpr h), show max a b = b by omega]
  · rw [if_neg (fun z => h ((nI_ltI (by omega) (by omega)).mp z)), show max a b = a by omega]
theorem divC_n {t n : Nat} (ht : 2 ≤ t) (ht2 : t < 100) (hn : n < 1000) : divC (nI n) (nI t) = nI (n / t) := by
  unfold divC
  rw [if_pos (show (0 : Int32) < nI t from (nI_ltI (a := 0) (b := t) (by omega) (by omega)).mpr (by omega))]; exact pk_div (by omega) (by omega) (by omega)
theorem remC_n {t n : Nat} (ht : 2 ≤ t) (ht2 : t < 100) (hn : n < 1000) : remC (nI n) (nI t) = nI (n % t) := by
  unfold remC
  rw [if_pos (show (0 : Int32) < nI t from (nI_ltI (a := 0) (b := t) (by omega) (by omega)).mpr (by omega))]; exact pk_rem (by omega) (by omega) (by omega)
theorem lt_iff {b i : Nat} (hb : b < 1000) (hi : i < 1001) : nI b < nI i ↔ b + 1 ≤ i := (nI_ltI (by omega) (by omega)).trans (by omega)
/-- smoke by turns: turn t, begin g -/
def smT (M : Mm) (r t g a b : Nat) : Int32 := if b < max a g then 0 else nI ((b - max a g + 1) / t) * sumF (fun j => shC M r (nI j)) g t + sumF (fun j => shC M r (nI j)) (b + 1 - (b - max a g + 1) % t) ((b - max a g + 1) % t)
theorem sub_1 {b l : Nat} (h : l ≤ b + 1) (hb : b < 1000) : nI b - nI l + 1 = nI (b + 1 - l) := by
  rw [← pk_sub h, ← nI_add]
  show nI b - nI l + 1 = nI b + 1 - nI l
  rw [Int32.sub_eq_add_neg, Int32.sub_eq_add_neg, Int32.add_assoc, Int32.add_comm (-nI l), ← Int32.add_assoc]

abbrev rmX0_smokeByTurns : Room := { frames := 3, cells := 0, slots := 0, locals := 67 }
theorem iX0_smokeByTurns_0 : ∀ w ∈ u_ws RX0 TX0 8, w ∈ wsX0_smokeByTurns := by decide +kernel
set_option maxHeartbeats 800000 in
set_option maxRecDepth 100000 in
theorem kX0_smokeByTurns (l : Launch) {M : Mm} {r : Nat} (hr : isR 0 r) (t g a b : Nat) (ht : 2 ≤ t) (ht2 : t ≤ 12) (hg1 : g ≤ 11) (hab : a ≤ b) (hb : b ≤ 95) (hT : M r 2 = nI t) (hG : M r 3 = nI g) : Ct l yX0_smokeByTurns wsX0_smokeByTurns rmX0_smokeByTurns (fun B => [.ref (B + r), .int (nI a), .int (nI b)]) M (fun _ v u => v = some (.int (smT M r t g a b)) ∧ u = M) := by
  refine Ct.ofI (own := RX0) (by decide +kernel) rfl rfl (fun B => Nat.le_of_ble_eq_true rfl) ?_
  intro pp ee ss mm aa bb me c9 DD ca B Tl AA QQ F K
  show G pp l ee rmX0_smokeByTurns ss mm aa bb me c9 QQ DD ca B Tl AA 6 0 0 M 0 [(0, .ref (B + r)), (1, .int (nI a)), (2, .int (nI b))] []
  refine g_iload_n F dX0_smokeByTurns_0 rfl 1 rfl ?_
  refine g_aload_n F dX0_smokeByTurns_1 rfl 0 rfl ?_
  refine gg0_begin F iX0_smokeByTurns_0 hr (by decide +kernel) dX0_smokeByTurns_2 ?_
  refine g_top hG ?_
  refine g_mmax F (by decide +kernel) (by decide +kernel) (by decide +kernel) (by decide +kernel) (Nat.le_of_ble_eq_true rfl) (Nat.le_of_ble_eq_true rfl) (Nat.zero_le _) (Nat.zero_le _) dX0_smokeByTurns_5 ?_
  refine g_top (nI_max (by omega) (by omega)) ?_
  refine g_istore_n F (lv2 := [(3, _), (0, _), (1, _), (2, _)]) dX0_smokeByTurns_8 rfl (by decide) rfl ?_
  refine g_iload_n F dX0_smokeByTurns_9 rfl 0 rfl ?_
  refine g_iload_n F dX0_smokeByTurns_10 rfl 3 rfl ?_
  refine g_icmpN_le F 16 dX0_smokeByTurns_11 (by decide) ((max a g)) (b) rfl rfl (by omega) (by omega) (fun h1 => ?_) (fun h1 => ?_)
  · have hmod := Nat.mod_lt (b - max a g + 1) (show 0 < t by omega)
    have hmle := Nat.mod_le (b - max a g + 1) t
    have hdl := Nat.div_le_self (b - max a g + 1) t
    have e0 : smT M r t g a b = _ := if_neg (by omega)
    refine g_iload_n F dX0_smokeByTurns_16 rfl 3 rfl ?_
    refine g_iload_n F dX0_smokeByTurns_17 rfl 0 rfl ?_
    refine g_isub F dX0_smokeByTurns_18 ?_
    refine g_top (pk_sub (a := b) (b := (max a g)) (by omega)) ?_
    refine g_iconst F (v := 1) dX0_smokeByTurns_19 (by decide) ?_
    refine g_iadd F dX0_smokeByTurns_20 ?_
    refine g_top (nI_add ((b - (max a g))) (1)) ?_
    refine g_istore F (lv2 := [(4, _), (3, _), (0, _), (1, _), (2, _)]) dX0_smokeByTurns_21 (by decide) rfl ?_
    refine g_aload_n F dX0_smokeByTurns_23 rfl 2 rfl ?_
    refine g_aload_n F dX0_smokeByTurns_24 rfl 2 rfl ?_
    refine gg0_begin F iX0_smokeByTurns_0 hr (by decide +kernel) dX0_smokeByTurns_25 ?_
    refine g_top hG ?_
    refine g_aload_n F dX0_smokeByTurns_28 rfl 2 rfl ?_
    refine gg0_begin F iX0_smokeByTurns_0 hr (by decide +kernel) dX0_smokeByTurns_29 ?_
    refine g_top hG ?_
    refine g_aload_n F dX0_smokeByTurns_32 rfl 2 rfl ?_
    refine gg0_turn F iX0_smokeByTurns_0 hr (by decide +kernel) dX0_smokeByTurns_33 ?_
    refine g_top hT ?_
    refine g_iadd F dX0_smokeByTurns_36 ?_
    refine g_top (nI_add (g) (t)) ?_
    refine g_iconst F (v := 1) dX0_smokeByTurns_37 (by decide) ?_
    refine g_isub F dX0_smokeByTurns_38 ?_
    refine g_top (pk_sub (a := (g + t)) (b := 1) (by omega)) ?_
    refine g_callV F (kX0_smokeByTicks l hr (g) (g + t - 1 + 1) (by omega) (by omega) (nI (g + t - 1)) (fun i hi => lt_iff (by omega) hi)) (cwV 2 F.1.2.2.2.2 gX0_smokeByTurns_X0_smokeByTicks rfl rfl rfl (by decide +kernel) ⟨Nat.le_of_ble_eq_true rfl, Nat.le_of_ble_eq_true rfl⟩) hr (by decide) rfl rfl rfl rfl (Nat.le_of_ble_eq_true rfl) dX0_smokeByTurns_39 ⟨Nat.le_of_ble_eq_true rfl, Nat.le_of_ble_eq_true rfl⟩ (g_det ?_)
    refine g_istore F (lv2 := [(5, _), (4, _), (3, _), (0, _), (1, _), (2, _)]) dX0_smokeByTurns_42 (by decide) rfl ?_
    refine g_aload_n F dX0_smokeByTurns_44 rfl 3 rfl ?_
    refine g_iload F dX0_smokeByTurns_45 1 rfl ?_
    refine g_callV F (kX0_turnsIn l hr _) (cwV 1 F.1.2.2.2.2 gX0_smokeByTurns_X0_turnsIn rfl rfl rfl (by decide +kernel) ⟨Nat.le_of_ble_eq_true rfl, Nat.le_of_ble_eq_true rfl⟩) hr (by decide) rfl rfl rfl rfl (Nat.le_of_ble_eq_true rfl) dX0_smokeByTurns_47 ⟨Nat.le_of_ble_eq_true rfl, Nat.le_of_ble_eq_true rfl⟩ (g_det ?_)
    refine g_top (y := nI ((b - max a g + 1) / t)) (by rw [hT]; exact divC_n ht (by omega) (by omega)) ?_
    refine g_iload F dX0_smokeByTurns_50 0 rfl ?_
    refine g_imul F dX0_smokeByTurns_52 ?_
    refine g_aload_n F dX0_smokeByTurns_53 rfl 3 rfl ?_
    refine g_iload_n F dX0_smokeByTurns_54 rfl 5 rfl ?_
    refine g_aload_n F dX0_smokeByTurns_55 rfl 3 rfl ?_
    refine g_iload F dX0_smokeByTurns_56 1 rfl ?_
    refine g_callV F (kX0_leftOf l hr _) (cwV 1 F.1.2.2.2.2 gX0_smokeByTurns_X0_leftOf rfl rfl rfl (by decide +kernel) ⟨Nat.le_of_ble_eq_true rfl, Nat.le_of_ble_eq_true rfl⟩) hr (by decide) rfl rfl rfl rfl (Nat.le_of_ble_eq_true rfl) dX0_smokeByTurns_58 ⟨Nat.le_of_ble_eq_true rfl, Nat.le_of_ble_eq_true rfl⟩ (g_det ?_)
    refine g_top (y := nI ((b - max a g + 1) % t)) (by rw [hT]; exact remC_n ht (by omega) (by omega)) ?_
    refine g_isub F dX0_smokeByTurns_61 ?_
    refine g_iconst F (v := 1) dX0_smokeByTurns_62 (by decide) ?_
    refine g_iadd F dX0_smokeByTurns_63 ?_
    refine g_top (y := nI (b + 1 - (b - max a g + 1) % t)) (sub_1 (by omega) (by omega)) ?_
    refine g_iload_n F dX0_smokeByTurns_64 rfl 5 rfl ?_
    refine g_callV F (kX0_smokeByTicks l hr (b + 1 - (b - max a g + 1) % t) (b + 1) (by omega) (by omega) (nI (b)) (fun i hi => lt_iff (by omega) hi)) (cwV 2 F.1.2.2.2.2 gX0_smokeByTurns_X0_smokeByTicks rfl rfl rfl (by decide +kernel) ⟨Nat.le_of_ble_eq_true rfl, Nat.le_of_ble_eq_true rfl⟩) hr (by decide) rfl rfl rfl rfl (Nat.le_of_ble_eq_true rfl) dX0_smokeByTurns_65 ⟨Nat.le_of_ble_eq_true rfl, Nat.le_of_ble_eq_true rfl⟩ (g_det ?_)
    refine g_iadd F dX0_smokeByTurns_68 ?_
    exact K _ _ _ _ dX0_smokeByTurns_69 rfl ⟨by first | (rw [e0]; done) | (rw [e0, show g + t - 1 + 1 - g = t by omega, show b + 1 - (b + 1 - (b - max a g + 1) % t) = (b - max a g + 1) % t by omega]), rfl⟩
  · have e0 : smT M r t g a b = 0 := if_pos (by omega)
    refine g_iconst F (v := 0) dX0_smokeByTurns_14 (by decide) ?_
    exact K _ _ _ _ dX0_smokeByTurns_15 rfl ⟨by first | (rw [e0]; done) | (rw [e0, show g + t - 1 + 1 - g = t by omega, show b + 1 - (b + 1 - (b - max a g + 1) % t) = (b - max a g + 1) % t by omega]), rfl⟩

def sosF (f : Nat → Int32) (x : Int32) : Nat → Int32
  | 0 => 0
  | i + 1 => if (x >>> (nI i &&& 31)) &&& 1 = 1 then sosF f x i + f i else sosF f x i
def soO (f : Nat → Int32) (x : Int32) : Nat → Int32 × Int32
  | 0 => (0, -1)
  | i + 1 => if (x >>> (nI i &&& 31)) &&& 1 = 0 ∧ (soO f x i).2 < f i then (nI i, f i) else soO f x i
def spF (f : Nat → Int32) : Nat → Int32
  | 0 => 0
  | i + 1 => spF f i ||| ((1 : Int32) <<< ((soO f (spF f i) 8).1 &&& 31))

abbrev rmX8_smokeOfSet : Room := { frames := 0, cells := 0, slots := 0, locals := 0 }
theorem iX8_smokeOfSet_8 : ∀ w ∈ u_ws RX8 TX8 6, w ∈ wsX8_smokeOfSet := by decide +kernel
set_option maxHeartbeats 800000 in
set_option maxRecDepth 100000 in
theorem kX8_smokeOfSet (l : Launch) {M : Mm} (x : Int32) : Ct l yX8_smokeOfSet wsX8_smokeOfSet rmX8_smokeOfSet (fun B => [.ref (B + 0), .int x]) M (fun _ v u => v = some (.int (sosF (M 566) x 8)) ∧ u = M) := by
  refine Ct.ofI (own := RX8) (by decide +kernel) rfl rfl (fun B => Nat.le_of_ble_eq_true rfl) ?_
  intro pp ee ss mm aa bb me c9 DD ca B Tl AA QQ F K
  show G pp l ee rmX8_smokeOfSet ss mm aa bb me c9 QQ DD ca B Tl AA 4 0 0 M 0 [(0, .ref (B + 0)), (1, .int x)] []
  refine g_iconst F (v := 0) dX8_smokeOfSet_0 (by decide) ?_
  refine g_istore_n F (lv2 := [(2, _), (0, _), (1, _)]) dX8_smokeOfSet_1 rfl (by decide) rfl ?_
  refine g_iconst F (v := 0) dX8_smokeOfSet_2 (by decide) ?_
  refine g_istore_n F (lv2 := [(3, _), (2, _), (0, _), (1, _)]) dX8_smokeOfSet_3 rfl (by decide) rfl ?_
  have LP : ∀ (ni i : Nat), i + ni = 8 → G pp l ee rmX8_smokeOfSet ss mm aa bb me c9 QQ DD ca B Tl AA 4 0 0 (M) 4 [(3, .int (nI i)), (0, .ref (B + 0)), (1, .int x), (2, .int (sosF (M 566) x i))] [] := by
    intro ni
    induction ni with
    | zero =>
      intro i hni
      refine g_iload_n F dX8_smokeOfSet_4 rfl 0 rfl ?_
      refine g_bipush F (v := 8) dX8_smokeOfSet_5 (by decide +kernel) ?_
      refine g_icmpN_ge F 34 dX8_smokeOfSet_7 (by decide) (i) (8) rfl rfl (by omega) (by omega) (fun hci => ?_) (fun hci => ?_)
      · obtain rfl : i = 8 := by omega
        refine g_iload_n F dX8_smokeOfSet_34 rfl 3 rfl ?_
        exact K _ _ _ _ dX8_smokeOfSet_35 rfl ⟨rfl, rfl⟩
      · exact absurd hci (by omega)
    | succ ni ihi =>
      intro i hni
      refine g_iload_n F dX8_smokeOfSet_4 rfl 0 rfl ?_
      refine g_bipush F (v := 8) dX8_smokeOfSet_5 (by decide +kernel) ?_
      refine g_icmpN_ge F 34 dX8_smokeOfSet_7 (by decide) (i) (8) rfl rfl (by omega) (by omega) (fun hci => ?_) (fun hci => ?_)
      · exact absurd hci (by omega)
      · refine g_iload_n F dX8_smokeOfSet_10 rfl 2 rfl ?_
        refine g_iload_n F dX8_smokeOfSet_11 rfl 0 rfl ?_
        refine g_ishr F dX8_smokeOfSet_12 ?_
        refine g_iconst F (v := 1) dX8_smokeOfSet_13 (by decide) ?_
        refine g_iand F dX8_smokeOfSet_14 ?_
        refine g_iconst F (v := 1) dX8_smokeOfSet_15 (by decide) ?_
        refine g_icmp_ne F 28 dX8_smokeOfSet_16 (by decide) (fun h2 => ?_) (fun h2 => ?_)
        · refine g_iinc F (lv2 := [(3, _), (0, _), (1, _), (2, _)]) dX8_smokeOfSet_28 0 rfl (nI_1 _) (by decide) rfl ?_
          refine g_goto F 4 dX8_smokeOfSet_31 (by decide) ?_
          refine g_lv (lv2 := [(3, _), (0, _), (1, _), (2, _)]) [0, 1, 2, 3] rfl ?_
          exact g_is rfl (by simp only [sosF, h2, if_true, if_false]) (ihi (i + 1) (by omega))
        · refine g_iload_n F dX8_smokeOfSet_19 rfl 3 rfl ?_
          refine g_aload_n F dX8_smokeOfSet_20 rfl 1 rfl ?_
          refine gg8_smokes F iX8_smokeOfSet_8 r0 (by decide +kernel) dX8_smokeOfSet_21 ?_
          refine g_iload_n F dX8_smokeOfSet_24 rfl 0 rfl ?_
          refine g_iaload F a566 (i) rfl (by omega) (by decide) dX8_smokeOfSet_25 ?_
          refine g_iadd F dX8_smokeOfSet_26 ?_
          refine g_istore_n F (lv2 := [(2, _), (3, _), (0, _), (1, _)]) dX8_smokeOfSet_27 rfl (by decide) rfl ?_
          refine g_iinc F (lv2 := [(3, _), (2, _), (0, _), (1, _)]) dX8_smokeOfSet_28 1 rfl (nI_1 _) (by decide) rfl ?_
          refine g_goto F 4 dX8_smokeOfSet_31 (by decide) ?_
          refine g_lv (lv2 := [(3, _), (0, _), (1, _), (2, _)]) [0, 2, 3, 1] rfl ?_
          exact g_is rfl (by simp only [sosF, h2, if_true, if_false]) (ihi (i + 1) (by omega))
  refine g_lv (lv2 := [(3, _), (0, _), (1, _), (2, _)]) [0, 2, 3, 1] rfl ?_
  exact g_is rfl rfl (LP (8 - 0) (0) (by omega))

abbrev rmX8_smokiestOutside : Room := { frames := 0, cells := 0, slots := 0, locals := 0 }
theorem iX8_smokiestOutside_8 : ∀ w ∈ u_ws RX8 TX8 6, w ∈ wsX8_smokiestOutside := by decide +kernel
set_option maxHeartbeats 800000 in
set_option maxRecDepth 100000 in
theorem kX8_smokiestOutside (l : Launch) {M : Mm} (x : Int32) : Ct l yX8_smokiestOutside wsX8_smokiestOutside rmX8_smokiestOutside (fun B => [.ref (B + 0), .int x]) M (fun _ v u => v = some (.int ((soO (M 566) x 8).1)) ∧ u = M) := by
  refine Ct.ofI (own := RX8) (by decide +kernel) rfl rfl (fun B => Nat.le_of_ble_eq_true rfl) ?_
  intro pp ee ss mm aa bb me c9 DD ca B Tl AA QQ F K
  show G pp l ee rmX8_smokiestOutside ss mm aa bb me c9 QQ DD ca B Tl AA 5 0 0 M 0 [(0, .ref (B + 0)), (1, .int x)] []
  refine g_iconst F (v := 0) dX8_smokiestOutside_0 (by decide) ?_
  refine g_istore_n F (lv2 := [(2, _), (0, _), (1, _)]) dX8_smokiestOutside_1 rfl (by decide) rfl ?_
  refine g_iconst F (v := -1) dX8_smokiestOutside_2 (by decide) ?_
  refine g_istore_n F (lv2 := [(3, _), (2, _), (0, _), (1, _)]) dX8_smokiestOutside_3 rfl (by decide) rfl ?_
  refine g_iconst F (v := 0) dX8_smokiestOutside_4 (by decide) ?_
  refine g_istore F (lv2 := [(4, _), (3, _), (2, _), (0, _), (1, _)]) dX8_smokiestOutside_5 (by decide) rfl ?_
  have LP : ∀ (ni i : Nat), i + ni = 8 → G pp l ee rmX8_smokiestOutside ss mm aa bb me c9 QQ DD ca B Tl AA 5 0 0 (M) 7 [(4, .int (nI i)), (0, .ref (B + 0)), (1, .int x), (2, .int (soO (M 566) x i).1), (3, .int (soO (M 566) x i).2)] [] := by
    intro ni
    induction ni with
    | zero =>
      intro i hni
      refine g_iload F dX8_smokiestOutside_7 0 rfl ?_
      refine g_bipush F (v := 8) dX8_smokiestOutside_9 (by decide +kernel) ?_
      refine g_icmpN_ge F 51 dX8_smokiestOutside_11 (by decide) (i) (8) rfl rfl (by omega) (by omega) (fun hci => ?_) (fun hci => ?_)
      · obtain rfl : i = 8 := by omega
        refine g_iload_n F dX8_smokiestOutside_51 rfl 3 rfl ?_
        exact K _ _ _ _ dX8_smokiestOutside_52 rfl ⟨rfl, rfl⟩
      · exact absurd hci (by omega)
    | succ ni ihi =>
      intro i hni
      refine g_iload F dX8_smokiestOutside_7 0 rfl ?_
      refine g_bipush F (v := 8) dX8_smokiestOutside_9 (by decide +kernel) ?_
      refine g_icmpN_ge F 51 dX8_smokiestOutside_11 (by decide) (i) (8) rfl rfl (by omega) (by omega) (fun hci => ?_) (fun hci => ?_)
      · exact absurd hci (by omega)
      · refine g_iload_n F dX8_smokiestOutside_14 rfl 2 rfl ?_
        refine g_iload F dX8_smokiestOutside_15 0 rfl ?_
        refine g_ishr F dX8_smokiestOutside_17 ?_
        refine g_iconst F (v := 1) dX8_smokiestOutside_18 (by decide) ?_
        refine g_iand F dX8_smokiestOutside_19 ?_
        refine g_if_ne F 45 dX8_smokiestOutside_20 (by decide) (fun h2 => ?_) (fun h2 => ?_)
        · refine g_iinc F (lv2 := [(4, _), (0, _), (1, _), (2, _), (3, _)]) dX8_smokiestOutside_45 0 rfl (nI_1 _) (by decide) rfl ?_
          refine g_goto F 7 dX8_smokiestOutside_48 (by decide) ?_
          refine g_lv (lv2 := [(4, _), (0, _), (1, _), (2, _), (3, _)]) [0, 1, 2, 3, 4] rfl ?_
          exact g_is rfl (by first | (rw [soO, if_neg (fun z => h2 z.1)]; done) | (rw [soO, if_neg (fun z => Int32.not_lt.mpr h3 z.2)]; done) | (rw [soO, if_pos (And.intro h2 (Int32.not_le.mp h3))]; done)) (ihi (i + 1) (by omega))
        · refine g_aload_n F dX8_smokiestOutside_23 rfl 1 rfl ?_
          refine gg8_smokes F iX8_smokiestOutside_8 r0 (by decide +kernel) dX8_smokiestOutside_24 ?_
          refine g_iload F dX8_smokiestOutside_27 0 rfl ?_
          refine g_iaload F a566 (i) rfl (by omega) (by decide) dX8_smokiestOutside_29 ?_
          refine g_iload_n F dX8_smokiestOutside_30 rfl 4 rfl ?_
          refine g_icmp_le F 45 dX8_smokiestOutside_31 (by decide) (fun h3 => ?_) (fun h3 => ?_)
          · refine g_iinc F (lv2 := [(4, _), (0, _), (1, _), (2, _), (3, _)]) dX8_smokiestOutside_45 0 rfl (nI_1 _) (by decide) rfl ?_
            refine g_goto F 7 dX8_smokiestOutside_48 (by decide) ?_
            refine g_lv (lv2 := [(4, _), (0, _), (1, _), (2, _), (3, _)]) [0, 1, 2, 3, 4] rfl ?_
            exact g_is rfl (by first | (rw [soO, if_neg (fun z => h2 z.1)]; done) | (rw [soO, if_neg (fun z => Int32.not_lt.mpr h3 z.2)]; done) | (rw [soO, if_pos (And.intro h2 (Int32.not_le.mp h3))]; done)) (ihi (i + 1) (by omega))
          · refine g_aload_n F dX8_smokiestOutside_34 rfl 1 rfl ?_
            refine gg8_smokes F iX8_smokiestOutside_8 r0 (by decide +kernel) dX8_smokiestOutside_35 ?_
            refine g_iload F dX8_smokiestOutside_38 0 rfl ?_
            refine g_iaload F a566 (i) rfl (by omega) (by decide) dX8_smokiestOutside_40 ?_
            refine g_istore_n F (lv2 := [(3, _), (4, _), (0, _), (1, _), (2, _)]) dX8_smokiestOutside_41 rfl (by decide) rfl ?_
            refine g_iload F dX8_smokiestOutside_42 1 rfl ?_
            refine g_istore_n F (lv2 := [(2, _), (3, _), (4, _), (0, _), (1, _)]) dX8_smokiestOutside_44 rfl (by decide) rfl ?_
            refine g_iinc F (lv2 := [(4, _), (2, _), (3, _), (0, _), (1, _)]) dX8_smokiestOutside_45 2 rfl (nI_1 _) (by decide) rfl ?_
            refine g_goto F 7 dX8_smokiestOutside_48 (by decide) ?_
            refine g_lv (lv2 := [(4, _), (0, _), (1, _), (2, _), (3, _)]) [0, 3, 4, 1, 2] rfl ?_
            exact g_is rfl (by first | (rw [soO, if_neg (fun z => h2 z.1)]; done) | (rw [soO, if_neg (fun z => Int32.not_lt.mpr h3 z.2)]; done) | (rw [soO, if_pos (And.intro h2 (Int32.not_le.mp h3))]; done)) (ihi (i + 1) (by omega))
  refine g_lv (lv2 := [(4, _), (0, _), (1, _), (2, _), (3, _)]) [0, 3, 4, 2, 1] rfl ?_
  exact g_is rfl rfl (LP (8 - 0) (0) (by omega))

abbrev rmX8_smokiestByPicking : Room := { frames := 1, cells := 0, slots := 0, locals := 24 }
set_option maxHeartbeats 800000 in
set_option maxRecDepth 100000 in
theorem kX8_smokiestByPicking (l : Launch) {M : Mm}  : Ct l yX8_smokiestByPicking wsX8_smokiestByPicking rmX8_smokiestByPicking (fun B => [.ref (B + 0)]) M (fun _ v u => v = some (.int (spF (M 566) 3)) ∧ u = M) := by
  refine Ct.ofI (own := RX8) (by decide +kernel) rfl rfl (fun B => Nat.le_of_ble_eq_true rfl) ?_
  intro pp ee ss mm aa bb me c9 DD ca B Tl AA QQ F K
  show G pp l ee rmX8_smokiestByPicking ss mm aa bb me c9 QQ DD ca B Tl AA 3 0 0 M 0 [(0, .ref (B + 0))] []
  refine g_iconst F (v := 0) dX8_smokiestByPicking_0 (by decide) ?_
  refine g_istore_n F (lv2 := [(1, _), (0, _)]) dX8_smokiestByPicking_1 rfl (by decide) rfl ?_
  refine g_iconst F (v := 0) dX8_smokiestByPicking_2 (by decide) ?_
  refine g_istore_n F (lv2 := [(2, _), (1, _), (0, _)]) dX8_smokiestByPicking_3 rfl (by decide) rfl ?_
  have LP : ∀ (ni i : Nat), i + ni = 3 → G pp l ee rmX8_smokiestByPicking ss mm aa bb me c9 QQ DD ca B Tl AA 3 0 0 (M) 4 [(2, .int (nI i)), (0, .ref (B + 0)), (1, .int (spF (M 566) i))] [] := by
    intro ni
    induction ni with
    | zero =>
      intro i hni
      refine g_iload_n F dX8_smokiestByPicking_4 rfl 0 rfl ?_
      refine g_iconst F (v := 3) dX8_smokiestByPicking_5 (by decide) ?_
      refine g_icmpN_ge F 25 dX8_smokiestByPicking_6 (by decide) (i) (3) rfl rfl (by omega) (by omega) (fun hci => ?_) (fun hci => ?_)
      · obtain rfl : i = 3 := by omega
        refine g_iload_n F dX8_smokiestByPicking_25 rfl 2 rfl ?_
        exact K _ _ _ _ dX8_smokiestByPicking_26 rfl ⟨rfl, rfl⟩
      · exact absurd hci (by omega)
    | succ ni ihi =>
      intro i hni
      refine g_iload_n F dX8_smokiestByPicking_4 rfl 0 rfl ?_
      refine g_iconst F (v := 3) dX8_smokiestByPicking_5 (by decide) ?_
      refine g_icmpN_ge F 25 dX8_smokiestByPicking_6 (by decide) (i) (3) rfl rfl (by omega) (by omega) (fun hci => ?_) (fun hci => ?_)
      · exact absurd hci (by omega)
      · refine g_iload_n F dX8_smokiestByPicking_9 rfl 2 rfl ?_
        refine g_iconst F (v := 1) dX8_smokiestByPicking_10 (by decide) ?_
        refine g_aload_n F dX8_smokiestByPicking_11 rfl 1 rfl ?_
        refine g_iload_n F dX8_smokiestByPicking_12 rfl 2 rfl ?_
        refine g_callV F (kX8_smokiestOutside l _) (cwV 1 F.1.2.2.2.2 gX8_smokiestByPicking_X8_smokiestOutside rfl rfl rfl (by decide +kernel) ⟨Nat.le_of_ble_eq_true rfl, Nat.le_of_ble_eq_true rfl⟩) r0 (by decide) rfl rfl rfl rfl (Nat.le_of_ble_eq_true rfl) dX8_smokiestByPicking_13 ⟨Nat.le_of_ble_eq_true rfl, Nat.le_of_ble_eq_true rfl⟩ (g_det ?_)
        refine g_ishl F dX8_smokiestByPicking_16 ?_
        refine g_ior F dX8_smokiestByPicking_17 ?_
        refine g_istore_n F (lv2 := [(1, _), (2, _), (0, _)]) dX8_smokiestByPicking_18 rfl (by decide) rfl ?_
        refine g_iinc F (lv2 := [(2, _), (1, _), (0, _)]) dX8_smokiestByPicking_19 1 rfl (nI_1 _) (by decide) rfl ?_
        refine g_goto F 4 dX8_smokiestByPicking_22 (by decide) ?_
        refine g_lv (lv2 := [(2, _), (0, _), (1, _)]) [0, 2, 1] rfl ?_
        exact g_is rfl rfl (ihi (i + 1) (by omega))
  refine g_lv (lv2 := [(2, _), (0, _), (1, _)]) [0, 2, 1] rfl ?_
  exact g_is rfl rfl (LP (3 - 0) (0) (by omega))

