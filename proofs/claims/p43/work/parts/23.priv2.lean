theorem r0 : isR 8 0 := ⟨by decide, by decide +kernel⟩
theorem r1 : isR 6 1 := ⟨by decide, by decide +kernel⟩
theorem r71 : isR 6 71 := ⟨by decide, by decide +kernel⟩
theorem r563 : isR 16 563 := ⟨by decide, by decide +kernel⟩
theorem a566 : isA 11 8 566 := ⟨by decide, by decide +kernel, by decide +kernel⟩
theorem nI_max {a b : Nat} (ha : a < 1000) (hb : b < 1000) : mxI (nI a) (nI b) = nI (max a b) := by
  unfold mxI
  by_cases h : a < b
  · rw [if_pos ((nI_ltI (by omega) (by omega)).mpr h), show max a b = b by omega]
  · rw [if_neg (fun z => h ((nI_ltI (by omega) (by omega)).mp z)), show max a b = a by omega]
theorem divC_n {t n : Nat} (ht : 2 ≤ t) (ht2 : t < 100) (hn : n < 1000) : divC (nI n) (nI t) = nI (n / t) := by
  unfold divC
  rw [if_pos (show (0 : Int32) < nI t from (nI_ltI (a := 0) (b := t) (by omega) (by omega)).mpr (by omega))]; exact pk_div (by omega) (by omega) (by omega)
theorem remC_n {t n : Nat} (ht : 2 ≤ t) (ht2 : t < 100) (hn : n < 1000) : remC (nI n) (nI t) = nI (n % t) := by
  unfold remC
  rw [if_pos (show (0 : Int32) < nI t from (nI_ltI (a := 0) (b := t) (by omega) (by omega)).mpr (by omega))]; exact pk_rem (by omega) (by omega) (by omega)
theorem lt_iff {b i : Nat} (hb : b < 1000) (hi : i < 1001) : nI b < nI i ↔ b + 1 ≤ i := (nI_ltI (by omega) (by omega)).trans (by omega)
/-- smoke by turns: turn t, begin g -/
def smT (M : Mm) (r t g a b : Nat) : Int32 := if b < max a g then 0 else nI ((b - max a g + 1) / t) * sumF (fun j => shC M r (nI j)) g t + sumF (fun j => shC M r (nI j)) (b + 1 - (b - max a g + 1) % t) ((b - max a g + 1) % t)
theorem sub_1 {b l : Nat} (h : l ≤ b + 1) (hb : b < 1000) : nI b - nI l + 1 = nI (b + 1 - l) := by
  rw [← pk_sub h, ← nI_add]
  show nI b - nI l + 1 = nI b + 1 - nI l
  rw [Int32.sub_eq_add_neg, Int32.sub_eq_add_neg, Int32.add_assoc, Int32.add_comm (-nI l), ← Int32.add_assoc]

abbrev rmX0_smokeByTurns : Room := { frames := 3, cells := 0, slots := 0, locals := 67 }
theorem iX0_smokeByTurns_0 : ∀ w ∈ u_ws RX0 TX0 8, w ∈ wsX0_smokeByTurns := by decide +kernel
set_option maxHeartbeats 4000000 in
set_option maxRecDepth 100000 in
theorem kX0_smokeByTurns (l : Launch) {M : Mm} {r : Nat} (hr : isR 0 r) (t g a b : Nat) (ht : 2 ≤ t) (ht2 : t ≤ 12) (hg1 : g ≤ 11) (hab : a ≤ b) (hb : b ≤ 95) (hT : M r 2 = nI t) (hG : M r 3 = nI g) : Ct l yX0_smokeByTurns wsX0_smokeByTurns rmX0_smokeByTurns (fun B => [.ref (B + r), .int (nI a), .int (nI b)]) M (fun _ v u => v = some (.int (smT M r t g a b)) ∧ u = M) := by
  refine Ct.ofI (own := RX0) (by decide +kernel) rfl rfl (fun B => Nat.le_of_ble_eq_true rfl) ?_
  intro pp ee ss mm aa bb me c9 DD ca B Tl AA QQ F K
  show G pp l ee rmX0_smokeByTurns ss mm aa bb me c9 QQ DD ca B Tl AA 6 0 0 M 0 [(0, .ref (B + r)), (1, .int (nI a)), (2, .int (nI b))] []
  refine g_iload_n F dX0_smokeByTurns_0 rfl 1 rfl ?_
  refine g_aload_n F dX0_smokeByTurns_1 rfl 0 rfl ?_
  refine gg0_begin F iX0_smokeByTurns_0 hr (by decide +kernel) dX0_smokeByTurns_2 ?_
  refine g_top hG ?_
  refine g_mmax F (by decide +kernel) (by decide +kernel) (by decide +kernel) (by decide +kernel) (Nat.le_of_ble_eq_true rfl) (Nat.le_of_ble_eq_true rfl) (Nat.zero_le _) (Nat.zero_le _) dX0_smokeByTurns_5 ?_
  refine g_top (nI_max (by omega) (by omega)) ?_
  refine g_istore_n F (lv2 := [(3, _), (0, _), (1, _), (2, _)]) dX0_smokeByTurns_8 rfl (by decide) rfl ?_
  refine g_iload_n F dX0_smokeByTurns_9 rfl 0 rfl ?_
  refine g_iload_n F dX0_smokeByTurns_10 rfl 3 rfl ?_
  refine g_icmpN_le F 16 dX0_smokeByTurns_11 (by decide) ((max a g)) (b) rfl rfl (by omega) (by omega) (fun h1 => ?_) (fun h1 => ?_)
  · have hmod := Nat.mod_lt (b - max a g + 1) (show 0 < t by omega)
    have hmle := Nat.mod_le (b - max a g + 1) t
    have hdl := Nat.div_le_self (b - max a g + 1) t
    have e0 : smT M r t g a b = _ := if_neg (by omega)
    refine g_iload_n F dX0_smokeByTurns_16 rfl 3 rfl ?_
    refine g_iload_n F dX0_smokeByTurns_17 rfl 0 rfl ?_
    refine g_isub F dX0_smokeByTurns_18 ?_
    refine g_top (pk_sub (a := b) (b := (max a g)) (by omega)) ?_
    refine g_iconst F (v := 1) dX0_smokeByTurns_19 (by decide) ?_
    refine g_iadd F dX0_smokeByTurns_20 ?_
    refine g_top (nI_add ((b - (max a g))) (1)) ?_
    refine g_istore F (lv2 := [(4, _), (3, _), (0, _), (1, _), (2, _)]) dX0_smokeByTurns_21 (by decide) rfl ?_
    refine g_aload_n F dX0_smokeByTurns_23 rfl 2 rfl ?_
    refine g_aload_n F dX0_smokeByTurns_24 rfl 2 rfl ?_
    refine gg0_begin F iX0_smokeByTurns_0 hr (by decide +kernel) dX0_smokeByTurns_25 ?_
    refine g_top hG ?_
    refine g_aload_n F dX0_smokeByTurns_28 rfl 2 rfl ?_
    refine gg0_begin F iX0_smokeByTurns_0 hr (by decide +kernel) dX0_smokeByTurns_29 ?_
    refine g_top hG ?_
    refine g_aload_n F dX0_smokeByTurns_32 rfl 2 rfl ?_
    refine gg0_turn F iX0_smokeByTurns_0 hr (by decide +kernel) dX0_smokeByTurns_33 ?_
    refine g_top hT ?_
    refine g_iadd F dX0_smokeByTurns_36 ?_
    refine g_top (nI_add (g) (t)) ?_
    refine g_iconst F (v := 1) dX0_smokeByTurns_37 (by decide) ?_
    refine g_isub F dX0_smokeByTurns_38 ?_
    refine g_top (pk_sub (a := (g + t)) (b := 1) (by omega)) ?_
    refine g_callV F (kX0_smokeByTicks l hr (g) (g + t - 1 + 1) (by omega) (by omega) (nI (g + t - 1)) (fun i hi => lt_iff (by omega) hi)) (cwV 2 F.1.2.2.2.2 gX0_smokeByTurns_X0_smokeByTicks rfl rfl rfl (by decide +kernel) ⟨Nat.le_of_ble_eq_true rfl, Nat.le_of_ble_eq_true rfl⟩) hr (by decide) rfl rfl rfl rfl (Nat.le_of_ble_eq_true rfl) dX0_smokeByTurns_39 ⟨Nat.le_of_ble_eq_true rfl, Nat.le_of_ble_eq_true rfl⟩ (g_det ?_)
    refine g_istore F (lv2 := [(5, _), (4, _), (3, _), (0, _), (1, _), (2, _)]) dX0_smokeByTurns_42 (by decide) rfl ?_
    refine g_aload_n F dX0_smokeByTurns_44 rfl 3 rfl ?_
    refine g_iload F dX0_smokeByTurns_45 1 rfl ?_
    refine g_callV F (kX0_turnsIn l hr _) (cwV 1 F.1.2.2.2.2 gX0_smokeByTurns_X0_turnsIn rfl rfl rfl (by decide +kernel) ⟨Nat.le_of_ble_eq_true rfl, Nat.le_of_ble_eq_true rfl⟩) hr (by decide) rfl rfl rfl rfl (Nat.le_of_ble_eq_true rfl) dX0_smokeByTurns_47 ⟨Nat.le_of_ble_eq_true rfl, Nat.le_of_ble_eq_true rfl⟩ (g_det ?_)
    refine g_top (y := nI ((b - max a g + 1) / t)) (by rw [hT]; exact divC_n ht (by omega) (by omega)) ?_
    refine g_iload F dX0_smokeByTurns_50 0 rfl ?_
    refine g_imul F dX0_smokeByTurns_52 ?_
    refine g_aload_n F dX0_smokeByTurns_53 rfl 3 rfl ?_
    refine g_iload_n F dX0_smokeByTurns_54 rfl 5 rfl ?_
    refine g_aload_n F dX0_smokeByTurns_55 rfl 3 rfl ?_
    refine g_iload F dX0_smokeByTurns_56 1 rfl ?_
    refine g_callV F (kX0_leftOf l hr _) (cwV 1 F.1.2.2.2.2 gX0_smokeByTurns_X0_leftOf rfl rfl rfl (by decide +kernel) ⟨Nat.le_of_ble_eq_true rfl, Nat.le_of_ble_eq_true rfl⟩) hr (by decide) rfl rfl rfl rfl (Nat.le_of_ble_eq_true rfl) dX0_smokeByTurns_58 ⟨Nat.le_of_ble_eq_true rfl, Nat.le_of_ble_eq_true rfl⟩ (g_det ?_)
    refine g_top (y := nI ((b - max a g + 1) % t)) (by rw [hT]; exact remC_n ht (by omega) (by omega)) ?_
    refine g_isub F dX0_smokeByTurns_61 ?_
    refine g_iconst F (v := 1) dX0_smokeByTurns_62 (by decide) ?_
    refine g_iadd F dX0_smokeByTurns_63 ?_
    refine g_top (y := nI (b + 1 - (b - max a g + 1) % t)) (sub_1 (by omega) (by omega)) ?_
    refine g_iload_n F dX0_smokeByTurns_64 rfl 5 rfl ?_
    refine g_callV F (kX0_smokeByTicks l hr (b + 1 - (b - max a g + 1) % t) (b + 1) (by omega) (by omega) (nI (b)) (fun i hi => lt_iff (by omega) hi)) (cwV 2 F.1.2.2.2.2 gX0_smokeByTurns_X0_smokeByTicks rfl rfl rfl (by decide +kernel) ⟨Nat.le_of_ble_eq_true rfl, Nat.le_of_ble_eq_true rfl⟩) hr (by decide) rfl rfl rfl rfl (Nat.le_of_ble_eq_true rfl) dX0_smokeByTurns_65 ⟨Nat.le_of_ble_eq_true rfl, Nat.le_of_ble_eq_true rfl⟩ (g_det ?_)
    refine g_iadd F dX0_smokeByTurns_68 ?_
    exact K _ _ _ _ dX0_smokeByTurns_69 rfl ⟨by first | (rw [e0]; done) | (rw [e0, show g + t - 1 + 1 - g = t by omega, show b + 1 - (b + 1 - (b - max a g + 1) % t) = (b - max a g + 1) % t by omega]), rfl⟩
  · have e0 : smT M r t g a b = 0 := if_pos (by omega)
    refine g_iconst F (v := 0) dX0_smokeByTurns_14 (by decide) ?_
    exact K _ _ _ _ dX0_smokeByTurns_15 rfl ⟨by first | (rw [e0]; done) | (rw [e0, show g + t - 1 + 1 - g = t by omega, show b + 1 - (b + 1 - (b - max a g + 1) % t) = (b - max a g + 1) % t by omega]), rfl⟩

def sosF (f : Nat → Int32) (x : Int32) : Nat → Int32
  | 0 => 0
  | i + 1 => if (x >>> (nI i &&& 31)) &&& 1 = 1 then sosF f x i + f i else sosF f x i
def soO (f : Nat → Int32) (x : Int32) : Nat → Int32 × Int32
  | 0 => (0, -1)
  | i + 1 => if (x >>> (nI i &&& 31)) &&& 1 = 0 ∧ (soO f x i).2 < f i then (nI i, f i) else soO f x i
def spF (f : Nat → Int32) : Nat → Int32
  | 0 => 0
  | i + 1 => spF f i ||| ((1 : Int32) <<< ((soO f (spF f i) 8).1 &&& 31))




