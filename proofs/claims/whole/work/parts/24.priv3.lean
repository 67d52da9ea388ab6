abbrev usr (x y : Int32) : Int32 := (x.toUInt32 >>> (y.toUInt32 &&& Int32.toUInt32 31)).toInt32
def bc1 (x : Int32) : Int32 := x - (usr x 1 &&& 1431655765)
def bc2 (x : Int32) : Int32 := (x &&& 858993459) + (usr x 2 &&& 858993459)
def bc3 (x : Int32) : Int32 := (x + usr x 4) &&& 252645135
def bc4 (x : Int32) : Int32 := x + usr x 8
def bc5 (x : Int32) : Int32 := (x + usr x 16) &&& 63
def bcF (x : Int32) : Int32 := bc5 (bc4 (bc3 (bc2 (bc1 x))))

abbrev rmJ6_bitCount_0f7a4 : Room := { frames := 0, cells := 0, slots := 0, locals := 0 }
set_option maxHeartbeats 800000 in
set_option maxRecDepth 100000 in
theorem kJ6_bitCount_0f7a4 (l : Launch) {M : Mm} (x : Int32) : Ct l yJ6_bitCount_0f7a4 wsJ6_bitCount_0f7a4 rmJ6_bitCount_0f7a4 (fun B => [.int x]) M (fun _ v u => v = some (.int (bcF x)) ∧ u = M) := by
  refine Ct.ofI (own := RJ6) (by decide +kernel) rfl rfl (fun B => Nat.le_of_ble_eq_true rfl) ?_
  intro pp ee ss mm aa bb me c9 DD ca B Tl AA QQ F K
  show G pp l ee rmJ6_bitCount_0f7a4 ss mm aa bb me c9 QQ DD ca B Tl AA 1 0 0 M 0 [(0, .int x)] []
  refine g_iload_n F dJ6_bitCount_0f7a4_0 rfl 0 rfl ?_
  refine g_iload_n F dJ6_bitCount_0f7a4_1 rfl 0 rfl ?_
  refine g_iconst F (v := 1) dJ6_bitCount_0f7a4_2 (by decide) ?_
  refine g_iushr F dJ6_bitCount_0f7a4_3 ?_
  refine g_ldcw F (v := 1431655765) (by decide +kernel) dJ6_bitCount_0f7a4_4 ?_
  refine g_iand F dJ6_bitCount_0f7a4_7 ?_
  refine g_isub F dJ6_bitCount_0f7a4_8 ?_
  refine g_istore_n F (lv2 := [(0, _)]) dJ6_bitCount_0f7a4_9 rfl (by decide) rfl ?_
  refine g_iload_n F dJ6_bitCount_0f7a4_10 rfl 0 rfl ?_
  refine g_ldcw F (v := 858993459) (by decide +kernel) dJ6_bitCount_0f7a4_11 ?_
  refine g_iand F dJ6_bitCount_0f7a4_14 ?_
  refine g_iload_n F dJ6_bitCount_0f7a4_15 rfl 0 rfl ?_
  refine g_iconst F (v := 2) dJ6_bitCount_0f7a4_16 (by decide) ?_
  refine g_iushr F dJ6_bitCount_0f7a4_17 ?_
  refine g_ldcw F (v := 858993459) (by decide +kernel) dJ6_bitCount_0f7a4_18 ?_
  refine g_iand F dJ6_bitCount_0f7a4_21 ?_
  refine g_iadd F dJ6_bitCount_0f7a4_22 ?_
  refine g_istore_n F (lv2 := [(0, _)]) dJ6_bitCount_0f7a4_23 rfl (by decide) rfl ?_
  refine g_iload_n F dJ6_bitCount_0f7a4_24 rfl 0 rfl ?_
  refine g_iload_n F dJ6_bitCount_0f7a4_25 rfl 0 rfl ?_
  refine g_iconst F (v := 4) dJ6_bitCount_0f7a4_26 (by decide) ?_
  refine g_iushr F dJ6_bitCount_0f7a4_27 ?_
  refine g_iadd F dJ6_bitCount_0f7a4_28 ?_
  refine g_ldcw F (v := 252645135) (by decide +kernel) dJ6_bitCount_0f7a4_29 ?_
  refine g_iand F dJ6_bitCount_0f7a4_32 ?_
  refine g_istore_n F (lv2 := [(0, _)]) dJ6_bitCount_0f7a4_33 rfl (by decide) rfl ?_
  refine g_iload_n F dJ6_bitCount_0f7a4_34 rfl 0 rfl ?_
  refine g_iload_n F dJ6_bitCount_0f7a4_35 rfl 0 rfl ?_
  refine g_bipush F (v := 8) dJ6_bitCount_0f7a4_36 (by decide +kernel) ?_
  refine g_iushr F dJ6_bitCount_0f7a4_38 ?_
  refine g_iadd F dJ6_bitCount_0f7a4_39 ?_
  refine g_istore_n F (lv2 := [(0, _)]) dJ6_bitCount_0f7a4_40 rfl (by decide) rfl ?_
  refine g_iload_n F dJ6_bitCount_0f7a4_41 rfl 0 rfl ?_
  refine g_iload_n F dJ6_bitCount_0f7a4_42 rfl 0 rfl ?_
  refine g_bipush F (v := 16) dJ6_bitCount_0f7a4_43 (by decide +kernel) ?_
  refine g_iushr F dJ6_bitCount_0f7a4_45 ?_
  refine g_iadd F dJ6_bitCount_0f7a4_46 ?_
  refine g_istore_n F (lv2 := [(0, _)]) dJ6_bitCount_0f7a4_47 rfl (by decide) rfl ?_
  refine g_iload_n F dJ6_bitCount_0f7a4_48 rfl 0 rfl ?_
  refine g_bipush F (v := 63) dJ6_bitCount_0f7a4_49 (by decide +kernel) ?_
  refine g_iand F dJ6_bitCount_0f7a4_51 ?_
  exact K _ _ _ _ dJ6_bitCount_0f7a4_52 rfl ⟨rfl, rfl⟩

def sbF (f : Nat → Int32) : Nat → Int32 × Int32
  | 0 => (-1, -1)
  | i + 1 => if bcF (nI i) = 3 ∧ (sbF f i).2 < sosF f (nI i) 8 then (nI i, sosF f (nI i) 8) else sbF f i

abbrev rmX8_smokiestBySets : Room := { frames := 1, cells := 0, slots := 0, locals := 23 }
set_option maxHeartbeats 800000 in
set_option maxRecDepth 100000 in
theorem kX8_smokiestBySets (l : Launch) {M : Mm}  : Ct l yX8_smokiestBySets wsX8_smokiestBySets rmX8_smokiestBySets (fun B => [.ref (B + 0)]) M (fun _ v u => v = some (.int ((sbF (M 566) 256).1)) ∧ u = M) := by
  refine Ct.ofI (own := RX8) (by decide +kernel) rfl rfl (fun B => Nat.le_of_ble_eq_true rfl) ?_
  intro pp ee ss mm aa bb me c9 DD ca B Tl AA QQ F K
  show G pp l ee rmX8_smokiestBySets ss mm aa bb me c9 QQ DD ca B Tl AA 5 0 0 M 0 [(0, .ref (B + 0))] []
  refine g_iconst F (v := -1) dX8_smokiestBySets_0 (by decide) ?_
  refine g_istore_n F (lv2 := [(1, _), (0, _)]) dX8_smokiestBySets_1 rfl (by decide) rfl ?_
  refine g_iconst F (v := -1) dX8_smokiestBySets_2 (by decide) ?_
  refine g_istore_n F (lv2 := [(2, _), (1, _), (0, _)]) dX8_smokiestBySets_3 rfl (by decide) rfl ?_
  refine g_iconst F (v := 0) dX8_smokiestBySets_4 (by decide) ?_
  refine g_istore_n F (lv2 := [(3, _), (2, _), (1, _), (0, _)]) dX8_smokiestBySets_5 rfl (by decide) rfl ?_
  have LP : ∀ (ni i : Nat), i + ni = 256 → G pp l ee rmX8_smokiestBySets ss mm aa bb me c9 QQ DD ca B Tl AA 5 0 0 (M) 6 [(3, .int (nI i)), (0, .ref (B + 0)), (1, .int (sbF (M 566) i).1), (2, .int (sbF (M 566) i).2)] [] := by
    intro ni
    induction ni with
    | zero =>
      intro i hni
      refine g_iload_n F dX8_smokiestBySets_6 rfl 0 rfl ?_
      refine g_sipush F (v := 256) dX8_smokiestBySets_7 (by decide +kernel) ?_
      refine g_icmpN_ge F 45 dX8_smokiestBySets_10 (by decide) (i) (256) rfl rfl (by omega) (by omega) (fun hci => ?_) (fun hci => ?_)
      · obtain rfl : i = 256 := by omega
        refine g_iload_n F dX8_smokiestBySets_45 rfl 2 rfl ?_
        exact K _ _ _ _ dX8_smokiestBySets_46 rfl ⟨rfl, rfl⟩
      · exact absurd hci (by omega)
    | succ ni ihi =>
      intro i hni
      refine g_iload_n F dX8_smokiestBySets_6 rfl 0 rfl ?_
      refine g_sipush F (v := 256) dX8_smokiestBySets_7 (by decide +kernel) ?_
      refine g_icmpN_ge F 45 dX8_smokiestBySets_10 (by decide) (i) (256) rfl rfl (by omega) (by omega) (fun hci => ?_) (fun hci => ?_)
      · exact absurd hci (by omega)
      · refine g_iload_n F dX8_smokiestBySets_13 rfl 0 rfl ?_
        refine g_callS F (kJ6_bitCount_0f7a4 l _) (va_cwS 1 F.1.2.2.2.2 gX8_smokiestBySets_J6_bitCount_0f7a4 rfl rfl rfl (by decide +kernel) ⟨Nat.le_of_ble_eq_true rfl, Nat.le_of_ble_eq_true rfl⟩) rfl rfl rfl (Nat.le_of_ble_eq_true rfl) dX8_smokiestBySets_14 ⟨Nat.le_of_ble_eq_true rfl, Nat.le_of_ble_eq_true rfl⟩ (g_det ?_)
        refine g_iconst F (v := 3) dX8_smokiestBySets_17 (by decide) ?_
        refine g_icmp_ne F 39 dX8_smokiestBySets_18 (by decide) (fun h2 => ?_) (fun h2 => ?_)
        · refine g_iinc F (lv2 := [(3, _), (0, _), (1, _), (2, _)]) dX8_smokiestBySets_39 0 rfl (nI_1 _) (by decide) rfl ?_
          refine g_goto F 6 dX8_smokiestBySets_42 (by decide) ?_
          refine g_lv (lv2 := [(3, _), (0, _), (1, _), (2, _)]) [0, 1, 2, 3] rfl ?_
          exact g_is rfl (by first | (rw [sbF, if_neg (fun z => h2 z.1)]; done) | (rw [sbF, if_neg (fun z => Int32.not_lt.mpr h3 z.2)]; done) | (rw [sbF, if_pos (And.intro (Decidable.not_not.mp h2) (Int32.not_le.mp h3))]; done) | (rw [sbF, if_pos (And.intro h2 (Int32.not_le.mp h3))]; done)) (ihi (i + 1) (by omega))
        · refine g_aload_n F dX8_smokiestBySets_21 rfl 1 rfl ?_
          refine g_iload_n F dX8_smokiestBySets_22 rfl 0 rfl ?_
          refine g_callV F (kX8_smokeOfSet l _) (cwV 1 F.1.2.2.2.2 gX8_smokiestBySets_X8_smokeOfSet rfl rfl rfl (by decide +kernel) ⟨Nat.le_of_ble_eq_true rfl, Nat.le_of_ble_eq_true rfl⟩) r0 (by decide) rfl rfl rfl rfl (Nat.le_of_ble_eq_true rfl) dX8_smokiestBySets_23 ⟨Nat.le_of_ble_eq_true rfl, Nat.le_of_ble_eq_true rfl⟩ (g_det ?_)
          refine g_istore F (lv2 := [(4, _), (3, _), (0, _), (1, _), (2, _)]) dX8_smokiestBySets_26 (by decide) rfl ?_
          refine g_iload F dX8_smokiestBySets_28 0 rfl ?_
          refine g_iload_n F dX8_smokiestBySets_30 rfl 4 rfl ?_
          refine g_icmp_le F 39 dX8_smokiestBySets_31 (by decide) (fun h3 => ?_) (fun h3 => ?_)
          · refine g_iinc F (lv2 := [(3, _), (4, _), (0, _), (1, _), (2, _)]) dX8_smokiestBySets_39 1 rfl (nI_1 _) (by decide) rfl ?_
            refine g_goto F 6 dX8_smokiestBySets_42 (by decide) ?_
            refine g_lv (lv2 := [(3, _), (0, _), (1, _), (2, _)]) [0, 2, 3, 4] rfl ?_
            exact g_is rfl (by first | (rw [sbF, if_neg (fun z => h2 z.1)]; done) | (rw [sbF, if_neg (fun z => Int32.not_lt.mpr h3 z.2)]; done) | (rw [sbF, if_pos (And.intro (Decidable.not_not.mp h2) (Int32.not_le.mp h3))]; done) | (rw [sbF, if_pos (And.intro h2 (Int32.not_le.mp h3))]; done)) (ihi (i + 1) (by omega))
          · refine g_iload F dX8_smokiestBySets_34 0 rfl ?_
            refine g_istore_n F (lv2 := [(2, _), (4, _), (3, _), (0, _), (1, _)]) dX8_smokiestBySets_36 rfl (by decide) rfl ?_
            refine g_iload_n F dX8_smokiestBySets_37 rfl 2 rfl ?_
            refine g_istore_n F (lv2 := [(1, _), (2, _), (4, _), (3, _), (0, _)]) dX8_smokiestBySets_38 rfl (by decide) rfl ?_
            refine g_iinc F (lv2 := [(3, _), (1, _), (2, _), (4, _), (0, _)]) dX8_smokiestBySets_39 3 rfl (nI_1 _) (by decide) rfl ?_
            refine g_goto F 6 dX8_smokiestBySets_42 (by decide) ?_
            refine g_lv (lv2 := [(3, _), (0, _), (1, _), (2, _)]) [0, 4, 1, 2] rfl ?_
            exact g_is rfl (by first | (rw [sbF, if_neg (fun z => h2 z.1)]; done) | (rw [sbF, if_neg (fun z => Int32.not_lt.mpr h3 z.2)]; done) | (rw [sbF, if_pos (And.intro (Decidable.not_not.mp h2) (Int32.not_le.mp h3))]; done) | (rw [sbF, if_pos (And.intro h2 (Int32.not_le.mp h3))]; done)) (ihi (i + 1) (by omega))
  refine g_lv (lv2 := [(3, _), (0, _), (1, _), (2, _)]) [0, 3, 2, 1] rfl ?_
  exact g_is rfl rfl (LP (256 - 0) (0) (by omega))

/-- an appeal against notice e, if it is possible -/
def anM (M : Mm) (e : Nat) : Mm := if M (noP 1 e) 4 = 0 then deF M 1 (noP 1 e) (M (noP 1 e) 0).toNatClampNeg else M
def apM (M : Mm) (x : Int32) : Mm := if 0 ≤ x ∧ x < M 1 5 ∧ x < 20 then anM M x.toNatClampNeg else M
/-- the notices' chimneys -/
def nchS (M : Mm) (r n : Nat) : Prop := ∀ e, e < n → (M (noP r e) 0).toNatClampNeg < 8 ∧ M (noP r e) 0 = nI (M (noP r e) 0).toNatClampNeg

abbrev rmX8_appealIfPossible : Room := { frames := 2, cells := 0, slots := 0, locals := 43 }
theorem iX8_appealIfPossible_3 : ∀ w ∈ u_ws RX3 TX3 6, w ∈ wsX8_appealIfPossible := by decide +kernel
theorem iX8_appealIfPossible_6 : ∀ w ∈ u_ws RX6 TX6 10, w ∈ wsX8_appealIfPossible := by decide +kernel
theorem iX8_appealIfPossible_8 : ∀ w ∈ u_ws RX8 TX8 6, w ∈ wsX8_appealIfPossible := by decide +kernel
set_option maxHeartbeats 800000 in
set_option maxRecDepth 100000 in
theorem kX8_appealIfPossible (l : Launch) {M : Mm} {n : Nat} (hn : M 1 5 = nI n) (hn20 : n ≤ 20) (hN : nchS M 1 n) (x : Int32) : Ct l yX8_appealIfPossible wsX8_appealIfPossible rmX8_appealIfPossible (fun B => [.ref (B + 0), .int x]) M (fun _ v u => v = none ∧ u = apM M x) := by
  refine Ct.ofV (own := RX8) (by decide +kernel) rfl rfl (fun B => Nat.le_of_ble_eq_true rfl) ?_
  intro pp ee ss mm aa bb me c9 DD ca B Tl AA QQ F K
  show G pp l ee rmX8_appealIfPossible ss mm aa bb me c9 QQ DD ca B Tl AA 2 0 0 M 0 [(0, .ref (B + 0)), (1, .int x)] []
  refine g_aload_n F dX8_appealIfPossible_0 rfl 0 rfl ?_
  refine gg8_now F iX8_appealIfPossible_8 r0 (by decide +kernel) dX8_appealIfPossible_1 ?_
  refine g_iload_n F dX8_appealIfPossible_4 rfl 1 rfl ?_
  refine g_callV F (kX6_hasNotice l r1 _) (cwV 1 F.1.2.2.2.2 gX8_appealIfPossible_X6_hasNotice rfl rfl rfl (by decide +kernel) ⟨Nat.le_of_ble_eq_true rfl, Nat.le_of_ble_eq_true rfl⟩) r1 (by decide) rfl rfl rfl rfl (Nat.le_of_ble_eq_true rfl) dX8_appealIfPossible_5 ⟨Nat.le_of_ble_eq_true rfl, Nat.le_of_ble_eq_true rfl⟩ (g_det ?_)
  refine g_ifB_eq F 42 dX8_appealIfPossible_8 (by decide) (fun h1 => ?_) (fun h1 => ?_)
  · have e0 : apM M x = M := if_neg h1
    exact K _ _ _ dX8_appealIfPossible_42 ⟨rfl, e0.symm⟩
  · obtain ⟨e, he, rfl⟩ := ofn hn20 (by rw [← hn]; exact h1)
    have e1 : apM M (nI e) = anM M e := by rw [apM, if_pos h1, nI_clamp (by omega)]
    refine g_aload_n F dX8_appealIfPossible_11 rfl 0 rfl ?_
    refine gg8_now F iX8_appealIfPossible_8 r0 (by decide +kernel) dX8_appealIfPossible_12 ?_
    refine gg6_notes F iX8_appealIfPossible_6 r1 (by decide +kernel) dX8_appealIfPossible_15 ?_
    refine g_iload_n F dX8_appealIfPossible_18 rfl 1 rfl ?_
    refine g_aaload13 F (sb6 r1).2.2.1 (e) rfl (by omega) dX8_appealIfPossible_19 ?_
    refine gg3_appealed F iX8_appealIfPossible_3 (el13 (sb6 r1).2.2.1 (by omega)) (by decide +kernel) dX8_appealIfPossible_20 ?_
    refine g_if_ne F 42 dX8_appealIfPossible_23 (by decide) (fun h2 => ?_) (fun h2 => ?_)
    · have e0 : apM M (nI e) = M := e1.trans (if_neg h2)
      exact K _ _ _ dX8_appealIfPossible_42 ⟨rfl, e0.symm⟩
    · have e0 : apM M (nI e) = _ := e1.trans (if_pos h2)
      refine g_aload_n F dX8_appealIfPossible_26 rfl 0 rfl ?_
      refine gg8_now F iX8_appealIfPossible_8 r0 (by decide +kernel) dX8_appealIfPossible_27 ?_
      refine g_aload_n F dX8_appealIfPossible_30 rfl 0 rfl ?_
      refine gg8_now F iX8_appealIfPossible_8 r0 (by decide +kernel) dX8_appealIfPossible_31 ?_
      refine gg6_notes F iX8_appealIfPossible_6 r1 (by decide +kernel) dX8_appealIfPossible_34 ?_
      refine g_iload_n F dX8_appealIfPossible_37 rfl 1 rfl ?_
      refine g_aaload13 F (sb6 r1).2.2.1 (e) rfl (by omega) dX8_appealIfPossible_38 ?_
      refine g_callV F (kX6_decide l r1 (el13 (sb6 r1).2.2.1 (by omega)) (c := (M (noP 1 e) 0).toNatClampNeg) (hN e he).1 (hN e he).2) (cwV 1 F.1.2.2.2.2 gX8_appealIfPossible_X6_decide rfl rfl rfl (by decide +kernel) ⟨Nat.le_of_ble_eq_true rfl, Nat.le_of_ble_eq_true rfl⟩) r1 (by decide) rfl rfl rfl rfl (Nat.le_of_ble_eq_true rfl) dX8_appealIfPossible_39 ⟨Nat.le_of_ble_eq_true rfl, Nat.le_of_ble_eq_true rfl⟩ (g_det ?_)
      exact K _ _ _ dX8_appealIfPossible_42 ⟨rfl, e0.symm⟩

/-- a part of the pad is carried out -/
def coM (M : Mm) (k x y : Int32) : Mm :=
  if k = 46 then itF M 1 x.toNatClampNeg
  else if k = 97 then apM M x
  else if k = 100 then va_up M (chP 1 x.toNatClampNeg) (upd (M (chP 1 x.toNatClampNeg)) 1 y)
  else if k = 102 then va_up M (chP 1 x.toNatClampNeg) (upd (M (chP 1 x.toNatClampNeg)) 0 y)
  else if k = 103 then va_up M (1 + 4) (cgF (M (1 + 4)) x y)
  else if k = 111 then va_up M (obP 1 x.toNatClampNeg) (upd (M (obP 1 x.toNatClampNeg)) 0 y)
  else if k = 114 then va_up M (obP 1 x.toNatClampNeg) (upd (M (obP 1 x.toNatClampNeg)) 0 (-1))
  else M

abbrev rmX8_carryOut : Room := { frames := 7, cells := 1, slots := 6, locals := 120 }
theorem iX8_carryOut_0 : ∀ w ∈ u_ws RX0 TX0 8, w ∈ wsX8_carryOut := by decide +kernel
theorem iX8_carryOut_4 : ∀ w ∈ u_ws RX4 TX4 5, w ∈ wsX8_carryOut := by decide +kernel
theorem iX8_carryOut_8 : ∀ w ∈ u_ws RX8 TX8 6, w ∈ wsX8_carryOut := by decide +kernel
set_option maxHeartbeats 800000 in
set_option maxRecDepth 100000 in
theorem kX8_carryOut (l : Launch) (hls : l.stackTraces = false) {M : Mm} {n : Nat} (hn : M 1 5 = nI n) (hn20 : n ≤ 20) (hN : nchS M 1 n) (hJ : CJ M 1) (k x y : Int32) (hO : k = 111 ∨ k = 114 → 0 ≤ x ∧ x ≤ 2) (hC : k = 102 ∨ k = 100 → 0 ≤ x ∧ x ≤ 7) (hP : k = 46 → ∃ m, m < 1000 ∧ x = nI m) : Ct l yX8_carryOut wsX8_carryOut rmX8_carryOut (fun B => [.ref (B + 0), .int k, .int x, .int y]) M (fun _ v u => v = none ∧ u = coM M k x y) := by
  refine Ct.ofV (own := RX8) (by decide +kernel) rfl rfl (fun B => Nat.le_of_ble_eq_true rfl) ?_
  intro pp ee ss mm aa bb me c9 DD ca B Tl AA QQ F K
  show G pp l ee rmX8_carryOut ss mm aa bb me c9 QQ DD ca B Tl AA 4 0 0 M 0 [(0, .ref (B + 0)), (1, .int k), (2, .int x), (3, .int y)] []
  refine g_iload_n F dX8_carryOut_0 rfl 1 rfl ?_
  by_cases hk46 : k = 46
  · refine g_lookup F (off := 141) 142 dX8_carryOut_1 (by decide) (lv_ohit (a := 46) hk46 rfl) (by decide) ?_
    have e0 : coM M k x y = itF M 1 x.toNatClampNeg := by rw [coM, if_pos hk46]
    obtain ⟨m, hm, rfl⟩ := hP hk46
    refine g_aload_n F dX8_carryOut_142 rfl 0 rfl ?_
    refine gg8_now F iX8_carryOut_8 r0 (by decide +kernel) dX8_carryOut_143 ?_
    refine g_iload_n F dX8_carryOut_146 rfl 2 rfl ?_
    refine g_callV F (kX6_passTicks l r1 (k := m) (by omega) (by assumption)) (cwV 1 F.1.2.2.2.2 gX8_carryOut_X6_passTicks rfl rfl rfl (by decide +kernel) ⟨Nat.le_of_ble_eq_true rfl, Nat.le_of_ble_eq_true rfl⟩) r1 (by decide) rfl rfl rfl rfl (Nat.le_of_ble_eq_true rfl) dX8_carryOut_147 ⟨Nat.le_of_ble_eq_true rfl, Nat.le_of_ble_eq_true rfl⟩ (g_det ?_)
    refine g_pop F dX8_carryOut_150 rfl ?_
    refine g_goto F 154 dX8_carryOut_151 (by decide) ?_
    refine g_widen (k := rmX8_carryOut.cells) (n := rmX8_carryOut.slots) (Nat.le_of_ble_eq_true rfl) (Nat.le_of_ble_eq_true rfl) ?_
    exact K _ _ _ dX8_carryOut_154 ⟨rfl, by first | (rw [e0]; done) | (rw [e0, e9, nI_clamp (by omega)]; done) | (rw [e0, nI_clamp (by omega)]; done)⟩
  by_cases hk97 : k = 97
  · refine g_lookup F (off := 133) 134 dX8_carryOut_1 (by decide) ((lv_osw (a := 46) hk46 rfl).trans (lv_ohit (a := 97) hk97 rfl)) (by decide) ?_
    have e0 : coM M k x y = apM M x := by rw [coM, if_neg hk46, if_pos hk97]
    refine g_aload_n F dX8_carryOut_134 rfl 0 rfl ?_
    refine g_iload_n F dX8_carryOut_135 rfl 2 rfl ?_
    refine g_callV F (kX8_appealIfPossible l hn hn20 hN _) (cwV 1 F.1.2.2.2.2 gX8_carryOut_X8_appealIfPossible rfl rfl rfl (by decide +kernel) ⟨Nat.le_of_ble_eq_true rfl, Nat.le_of_ble_eq_true rfl⟩) r0 (by decide) rfl rfl rfl rfl (Nat.le_of_ble_eq_true rfl) dX8_carryOut_136 ⟨Nat.le_of_ble_eq_true rfl, Nat.le_of_ble_eq_true rfl⟩ (g_det ?_)
    refine g_goto F 154 dX8_carryOut_139 (by decide) ?_
    refine g_widen (k := rmX8_carryOut.cells) (n := rmX8_carryOut.slots) (Nat.le_of_ble_eq_true rfl) (Nat.le_of_ble_eq_true rfl) ?_
    exact K _ _ _ dX8_carryOut_154 ⟨rfl, by first | (rw [e0]; done) | (rw [e0, e9, nI_clamp (by omega)]; done) | (rw [e0, nI_clamp (by omega)]; done)⟩
  by_cases hk100 : k = 100
  · refine g_lookup F (off := 106) 107 dX8_carryOut_1 (by decide) ((lv_osw (a := 46) hk46 rfl).trans ((lv_osw (a := 97) hk97 rfl).trans (lv_ohit (a := 100) hk100 rfl))) (by decide) ?_
    have e0 : coM M k x y = va_up M (chP 1 x.toNatClampNeg) (upd (M (chP 1 x.toNatClampNeg)) 1 y) := by rw [coM, if_neg hk46, if_neg hk97, if_pos hk100]
    have h7 := hC (Or.inr hk100)
    refine g_aload_n F dX8_carryOut_107 rfl 0 rfl ?_
    refine gg8_now F iX8_carryOut_8 r0 (by decide +kernel) dX8_carryOut_108 ?_
    refine g_iload_n F dX8_carryOut_111 rfl 2 rfl ?_
    refine x_callS F (kX8_chimneyOn l hls r1 _) (va_cwS 2 F.1.2.2.2.2 gX8_carryOut_X8_chimneyOn rfl rfl rfl (by decide +kernel) ⟨Nat.le_of_ble_eq_true rfl, Nat.le_of_ble_eq_true rfl⟩) rfl rfl rfl (Nat.le_of_ble_eq_true rfl) dX8_carryOut_112 ⟨Nat.le_of_ble_eq_true rfl, Nat.le_of_ble_eq_true rfl⟩ (fun v9 u9 h9 => ?_) (fun E9 u9 x9 => absurd (h7) x9.2.1)
    obtain ⟨c, hc, e9, rfl, rfl⟩ := h9
    refine g_iload_n F dX8_carryOut_115 rfl 3 rfl ?_
    refine gp0_damp F iX8_carryOut_0 (el12 (sb6 r1).1 hc) (by decide +kernel) dX8_carryOut_116 ?_
    refine g_goto F 154 dX8_carryOut_119 (by decide) ?_
    refine g_widen (k := rmX8_carryOut.cells) (n := rmX8_carryOut.slots) (Nat.le_of_ble_eq_true rfl) (Nat.le_of_ble_eq_true rfl) ?_
    exact K _ _ _ dX8_carryOut_154 ⟨rfl, by first | (rw [e0]; done) | (rw [e0, e9, nI_clamp (by omega)]; done) | (rw [e0, nI_clamp (by omega)]; done)⟩
  by_cases hk102 : k = 102
  · refine g_lookup F (off := 91) 92 dX8_carryOut_1 (by decide) ((lv_osw (a := 46) hk46 rfl).trans ((lv_osw (a := 97) hk97 rfl).trans ((lv_osw (a := 100) hk100 rfl).trans (lv_ohit (a := 102) hk102 rfl)))) (by decide) ?_
    have e0 : coM M k x y = va_up M (chP 1 x.toNatClampNeg) (upd (M (chP 1 x.toNatClampNeg)) 0 y) := by rw [coM, if_neg hk46, if_neg hk97, if_neg hk100, if_pos hk102]
    have h7 := hC (Or.inl hk102)
    refine g_aload_n F dX8_carryOut_92 rfl 0 rfl ?_
    refine gg8_now F iX8_carryOut_8 r0 (by decide +kernel) dX8_carryOut_93 ?_
    refine g_iload_n F dX8_carryOut_96 rfl 2 rfl ?_
    refine x_callS F (kX8_chimneyOn l hls r1 _) (va_cwS 2 F.1.2.2.2.2 gX8_carryOut_X8_chimneyOn rfl rfl rfl (by decide +kernel) ⟨Nat.le_of_ble_eq_true rfl, Nat.le_of_ble_eq_true rfl⟩) rfl rfl rfl (Nat.le_of_ble_eq_true rfl) dX8_carryOut_97 ⟨Nat.le_of_ble_eq_true rfl, Nat.le_of_ble_eq_true rfl⟩ (fun v9 u9 h9 => ?_) (fun E9 u9 x9 => absurd (h7) x9.2.1)
    obtain ⟨c, hc, e9, rfl, rfl⟩ := h9
    refine g_iload_n F dX8_carryOut_100 rfl 3 rfl ?_
    refine gp0_fire F iX8_carryOut_0 (el12 (sb6 r1).1 hc) (by decide +kernel) dX8_carryOut_101 ?_
    refine g_goto F 154 dX8_carryOut_104 (by decide) ?_
    refine g_widen (k := rmX8_carryOut.cells) (n := rmX8_carryOut.slots) (Nat.le_of_ble_eq_true rfl) (Nat.le_of_ble_eq_true rfl) ?_
    exact K _ _ _ dX8_carryOut_154 ⟨rfl, by first | (rw [e0]; done) | (rw [e0, e9, nI_clamp (by omega)]; done) | (rw [e0, nI_clamp (by omega)]; done)⟩
  by_cases hk103 : k = 103
  · refine g_lookup F (off := 121) 122 dX8_carryOut_1 (by decide) ((lv_osw (a := 46) hk46 rfl).trans ((lv_osw (a := 97) hk97 rfl).trans ((lv_osw (a := 100) hk100 rfl).trans ((lv_osw (a := 102) hk102 rfl).trans (lv_ohit (a := 103) hk103 rfl))))) (by decide) ?_
    have e0 : coM M k x y = va_up M (1 + 4) (cgF (M (1 + 4)) x y) := by rw [coM, if_neg hk46, if_neg hk97, if_neg hk100, if_neg hk102, if_pos hk103]
    refine g_aload_n F dX8_carryOut_122 rfl 0 rfl ?_
    refine gg8_now F iX8_carryOut_8 r0 (by decide +kernel) dX8_carryOut_123 ?_
    refine g_iload_n F dX8_carryOut_126 rfl 2 rfl ?_
    refine g_iload_n F dX8_carryOut_127 rfl 3 rfl ?_
    refine g_callV F (kX6_changeGrey l r1 _ _) (cwV 2 F.1.2.2.2.2 gX8_carryOut_X6_changeGrey rfl rfl rfl (by decide +kernel) ⟨Nat.le_of_ble_eq_true rfl, Nat.le_of_ble_eq_true rfl⟩) r1 (by decide) rfl rfl rfl rfl (Nat.le_of_ble_eq_true rfl) dX8_carryOut_128 ⟨Nat.le_of_ble_eq_true rfl, Nat.le_of_ble_eq_true rfl⟩ (g_det ?_)
    refine g_goto F 154 dX8_carryOut_131 (by decide) ?_
    refine g_widen (k := rmX8_carryOut.cells) (n := rmX8_carryOut.slots) (Nat.le_of_ble_eq_true rfl) (Nat.le_of_ble_eq_true rfl) ?_
    exact K _ _ _ dX8_carryOut_154 ⟨rfl, by first | (rw [e0]; done) | (rw [e0, e9, nI_clamp (by omega)]; done) | (rw [e0, nI_clamp (by omega)]; done)⟩
  by_cases hk111 : k = 111
  · refine g_lookup F (off := 67) 68 dX8_carryOut_1 (by decide) ((lv_osw (a := 46) hk46 rfl).trans ((lv_osw (a := 97) hk97 rfl).trans ((lv_osw (a := 100) hk100 rfl).trans ((lv_osw (a := 102) hk102 rfl).trans ((lv_osw (a := 103) hk103 rfl).trans (lv_ohit (a := 111) hk111 rfl)))))) (by decide) ?_
    have e0 : coM M k x y = va_up M (obP 1 x.toNatClampNeg) (upd (M (obP 1 x.toNatClampNeg)) 0 y) := by rw [coM, if_neg hk46, if_neg hk97, if_neg hk100, if_neg hk102, if_neg hk103, if_pos hk111]
    have h2 := hO (Or.inl hk111)
    refine g_aload_n F dX8_carryOut_68 rfl 0 rfl ?_
    refine g_iload_n F dX8_carryOut_69 rfl 2 rfl ?_
    refine x_callV F (kX8_observerNow l hls r0 _) (cwV 1 F.1.2.2.2.2 gX8_carryOut_X8_observerNow rfl rfl rfl (by decide +kernel) ⟨Nat.le_of_ble_eq_true rfl, Nat.le_of_ble_eq_true rfl⟩) r0 (by decide) rfl rfl rfl rfl (Nat.le_of_ble_eq_true rfl) dX8_carryOut_70 ⟨Nat.le_of_ble_eq_true rfl, Nat.le_of_ble_eq_true rfl⟩ (fun v9 u9 h9 => ?_) (fun E9 u9 x9 => absurd (h2) x9.2.1)
    obtain ⟨c, hc, e9, rfl, rfl⟩ := h9
    refine g_iload_n F dX8_carryOut_73 rfl 3 rfl ?_
    refine gp4_watched F iX8_carryOut_4 (el14 (sb6 r1).2.1 hc) (by decide +kernel) dX8_carryOut_74 ?_
    refine g_goto F 154 dX8_carryOut_77 (by decide) ?_
    refine g_widen (k := rmX8_carryOut.cells) (n := rmX8_carryOut.slots) (Nat.le_of_ble_eq_true rfl) (Nat.le_of_ble_eq_true rfl) ?_
    exact K _ _ _ dX8_carryOut_154 ⟨rfl, by first | (rw [e0]; done) | (rw [e0, e9, nI_clamp (by omega)]; done) | (rw [e0, nI_clamp (by omega)]; done)⟩
  by_cases hk114 : k = 114
  · refine g_lookup F (off := 79) 80 dX8_carryOut_1 (by decide) ((lv_osw (a := 46) hk46 rfl).trans ((lv_osw (a := 97) hk97 rfl).trans ((lv_osw (a := 100) hk100 rfl).trans ((lv_osw (a := 102) hk102 rfl).trans ((lv_osw (a := 103) hk103 rfl).trans ((lv_osw (a := 111) hk111 rfl).trans (lv_ohit (a := 114) hk114 rfl))))))) (by decide) ?_
    have e0 : coM M k x y = va_up M (obP 1 x.toNatClampNeg) (upd (M (obP 1 x.toNatClampNeg)) 0 (-1)) := by rw [coM, if_neg hk46, if_neg hk97, if_neg hk100, if_neg hk102, if_neg hk103, if_neg hk111, if_pos hk114]
    have h2 := hO (Or.inr hk114)
    refine g_aload_n F dX8_carryOut_80 rfl 0 rfl ?_
    refine g_iload_n F dX8_carryOut_81 rfl 2 rfl ?_
    refine x_callV F (kX8_observerNow l hls r0 _) (cwV 1 F.1.2.2.2.2 gX8_carryOut_X8_observerNow rfl rfl rfl (by decide +kernel) ⟨Nat.le_of_ble_eq_true rfl, Nat.le_of_ble_eq_true rfl⟩) r0 (by decide) rfl rfl rfl rfl (Nat.le_of_ble_eq_true rfl) dX8_carryOut_82 ⟨Nat.le_of_ble_eq_true rfl, Nat.le_of_ble_eq_true rfl⟩ (fun v9 u9 h9 => ?_) (fun E9 u9 x9 => absurd (h2) x9.2.1)
    obtain ⟨c, hc, e9, rfl, rfl⟩ := h9
    refine g_iconst F (v := -1) dX8_carryOut_85 (by decide) ?_
    refine gp4_watched F iX8_carryOut_4 (el14 (sb6 r1).2.1 hc) (by decide +kernel) dX8_carryOut_86 ?_
    refine g_goto F 154 dX8_carryOut_89 (by decide) ?_
    refine g_widen (k := rmX8_carryOut.cells) (n := rmX8_carryOut.slots) (Nat.le_of_ble_eq_true rfl) (Nat.le_of_ble_eq_true rfl) ?_
    exact K _ _ _ dX8_carryOut_154 ⟨rfl, by first | (rw [e0]; done) | (rw [e0, e9, nI_clamp (by omega)]; done) | (rw [e0, nI_clamp (by omega)]; done)⟩
  refine g_lookup F (off := 153) 154 dX8_carryOut_1 (by decide) ((lv_osw (a := 46) hk46 rfl).trans ((lv_osw (a := 97) hk97 rfl).trans ((lv_osw (a := 100) hk100 rfl).trans ((lv_osw (a := 102) hk102 rfl).trans ((lv_osw (a := 103) hk103 rfl).trans ((lv_osw (a := 111) hk111 rfl).trans ((lv_osw (a := 114) hk114 rfl).trans (rfl)))))))) (by decide) ?_
  have e0 : coM M k x y = M := by rw [coM, if_neg hk46, if_neg hk97, if_neg hk100, if_neg hk102, if_neg hk103, if_neg hk111, if_neg hk114]
  refine g_widen (k := rmX8_carryOut.cells) (n := rmX8_carryOut.slots) (Nat.le_of_ble_eq_true rfl) (Nat.le_of_ble_eq_true rfl) ?_
  exact K _ _ _ dX8_carryOut_154 ⟨rfl, by first | (rw [e0]; done) | (rw [e0, e9, nI_clamp (by omega)]; done) | (rw [e0, nI_clamp (by omega)]; done)⟩
