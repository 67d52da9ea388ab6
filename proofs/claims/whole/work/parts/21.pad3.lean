theorem lg_eq0 {x y : Int64} : lg_cmp x y = 0 ↔ x = y := by
  unfold lg_cmp
  by_cases h1 : y < x
  · have h2 : ¬ x = y := fun z => by subst z; exact Int64.lt_irrefl h1
    simp [h1, h2]
  · by_cases h2 : x = y
    · subst h2; simp
    · simp [h1, h2]
abbrev sh8 (x : Int64) : Int64 := (x.toUInt64 >>> ((8 : Int32).toInt64.toUInt64 &&& Int64.toUInt64 63)).toInt64
/-- how many characters, from the i-th on -/
def coF : Nat → Nat → Int64 → Int32
  | 0, i, x => if x = 0 then nI i else -1
  | n + 1, i, x => if x &&& 255 = 0 then (if x = 0 then nI i else -1) else if 33 ≤ (x &&& 255).toInt32 ∧ (x &&& 255).toInt32 ≤ 126 then coF n (i + 1) (sh8 x) else -1
def shF (x : Int64) : Nat → Int64
  | 0 => x
  | i + 1 => sh8 (shF x i)
def chB (x : Int64) (y : Int32) : Int32 := (((x.toUInt64 >>> ((8 * y).toInt64.toUInt64 &&& Int64.toUInt64 63)).toInt64 &&& 255).toInt32.toUInt32 % 65536).toInt32
theorem chr_B (x : Int64) (y : Int32) : chr (chB x y) := by
  unfold chr chB
  generalize ((x.toUInt64 >>> ((8 * y).toInt64.toUInt64 &&& Int64.toUInt64 63)).toInt64 &&& 255).toInt32 = w
  have h : w.toUInt32 % 65536 % 65536 = w.toUInt32 % 65536 := UInt32.toNat_inj.mp (by simp)
  have hn : (w.toUInt32 % 65536).toNat < 65536 := by rw [UInt32.toNat_mod]; exact Nat.mod_lt _ (by decide)
  have hv : (w.toUInt32 % 65536).toInt32 = nI (w.toUInt32 % 65536).toNat := by
    unfold nI
    rw [← UInt32.toInt32_ofNat', UInt32.ofNat_toNat]
  refine ⟨?_, ?_⟩
  case refine_2 =>
    show (decide (0 ≤ (w.toUInt32 % 65536).toInt32) && decide ((w.toUInt32 % 65536).toInt32 ≤ 65535)) = true
    rw [hv, decide_eq_true (Int32.not_lt.mp (nI_pos (by omega))), show decide (nI (w.toUInt32 % 65536).toNat ≤ 65535) = true from decide_eq_true ((nI_leI (a := (w.toUInt32 % 65536).toNat) (b := 65535) (by omega) (by decide)).mpr (by omega))]; rfl
  show Value.int (((w.toUInt32 % 65536).toInt32.toUInt32 % 65536).toInt32) = _
  rw [UInt32.toUInt32_toInt32, h]
def apS (x : Int64) (c L : Nat) (f : Nat → Int32) : Nat → Nat → Int32
  | 0 => f
  | i + 1 => upd (apS x c L f i) (L + i) (chB x (nI (c - i) - 1))
theorem upd_id (f : Nat → Int32) (k : Nat) : upd f k (f k) = f := by
  funext j; unfold upd; split
  · next h => subst h; rfl
  · rfl

abbrev rmX5_countOf : Room := { frames := 1, cells := 0, slots := 0, locals := 22 }
set_option maxHeartbeats 800000 in
set_option maxRecDepth 100000 in
theorem kX5_countOf (l : Launch) {M : Mm} (x : Int64) : Ct l yX5_countOf wsX5_countOf rmX5_countOf (fun B => [.long x]) M (fun _ v u => v = some (.int (coF 8 0 x)) ∧ u = M) := by
  refine Ct.ofI (own := RX5) (by decide +kernel) rfl rfl (fun B => Nat.le_of_ble_eq_true rfl) ?_
  intro pp ee ss mm aa bb me c9 DD ca B Tl AA QQ F K
  show G pp l ee rmX5_countOf ss mm aa bb me c9 QQ DD ca B Tl AA 5 0 0 M 0 [(0, .long x)] []
  generalize hFF : coF 8 0 x = FF at K
  refine g_lload_n F dX5_countOf_0 rfl 0 rfl ?_
  refine g_lstore_n F (lv2 := [(2, _), (0, _)]) dX5_countOf_1 rfl (by decide) rfl ?_
  refine g_iconst F (v := 0) dX5_countOf_2 (by decide) ?_
  refine g_istore F (lv2 := [(4, _), (2, _), (0, _)]) dX5_countOf_3 (by decide) rfl ?_
  have LP : ∀ (ni i : Nat), i + ni = 8 → coF (8 - i) i (shF x i) = FF → G pp l ee rmX5_countOf ss mm aa bb me c9 QQ DD ca B Tl AA 5 0 0 (M) 5 [(4, .int (nI i)), (2, .long (shF x i)), (0, .long x)] [] := by
    intro ni
    induction ni with
    | zero =>
      intro i hni hyi
      refine g_iload F dX5_countOf_5 0 rfl ?_
      refine g_bipush F (v := 8) dX5_countOf_7 (by decide +kernel) ?_
      refine g_icmpN_ge F 51 dX5_countOf_9 (by decide) (i) (8) rfl rfl (by omega) (by omega) (fun hci => ?_) (fun hci => ?_)
      · have e0 : coF 0 i (shF x i) = FF := by rw [show 0 = 8 - i by omega]; exact hyi
        rw [coF] at e0
        refine g_lload_n F dX5_countOf_51 rfl 1 rfl ?_
        refine g_lconst F (v := 0) dX5_countOf_52 (by decide) ?_
        refine g_lcmp F dX5_countOf_53 ?_
        refine g_if_ne F 62 dX5_countOf_54 (by decide) (fun h3 => ?_) (fun h3 => ?_)
        · rw [if_neg (fun z => h3 (lg_eq0.mpr z))] at e0
          refine g_iconst F (v := -1) dX5_countOf_62 (by decide) ?_
          exact K _ _ _ _ dX5_countOf_63 rfl ⟨by first | (rw [← e0]; done) | (rw [← e0]; rfl), rfl⟩
        · rw [if_pos (lg_eq0.mp h3)] at e0
          refine g_iload F dX5_countOf_57 0 rfl ?_
          refine g_goto F 63 dX5_countOf_59 (by decide) ?_
          exact K _ _ _ _ dX5_countOf_63 rfl ⟨by first | (rw [← e0]; done) | (rw [← e0]; rfl), rfl⟩
      · exact absurd hci (by omega)
    | succ ni ihi =>
      intro i hni hyi
      refine g_iload F dX5_countOf_5 0 rfl ?_
      refine g_bipush F (v := 8) dX5_countOf_7 (by decide +kernel) ?_
      refine g_icmpN_ge F 51 dX5_countOf_9 (by decide) (i) (8) rfl rfl (by omega) (by omega) (fun hci => ?_) (fun hci => ?_)
      · exact absurd hci (by omega)
      · refine g_lload_n F dX5_countOf_12 rfl 1 rfl ?_
        refine g_ldc2 F (v := 255) (by decide +kernel) dX5_countOf_13 ?_
        refine g_land F dX5_countOf_16 ?_
        refine g_lconst F (v := 0) dX5_countOf_17 (by decide) ?_
        refine g_lcmp F dX5_countOf_18 ?_
        refine g_if_eq F 51 dX5_countOf_19 (by decide) (fun h1 => ?_) (fun h1 => ?_)
        · have e0 := hyi
          rw [show 8 - i = (8 - (i + 1)) + 1 by omega, coF, if_pos (lg_eq0.mp h1)] at e0
          refine g_lload_n F dX5_countOf_51 rfl 1 rfl ?_
          refine g_lconst F (v := 0) dX5_countOf_52 (by decide) ?_
          refine g_lcmp F dX5_countOf_53 ?_
          refine g_if_ne F 62 dX5_countOf_54 (by decide) (fun h3 => ?_) (fun h3 => ?_)
          · rw [if_neg (fun z => h3 (lg_eq0.mpr z))] at e0
            refine g_iconst F (v := -1) dX5_countOf_62 (by decide) ?_
            exact K _ _ _ _ dX5_countOf_63 rfl ⟨by first | (rw [← e0]; done) | (rw [← e0]; rfl), rfl⟩
          · rw [if_pos (lg_eq0.mp h3)] at e0
            refine g_iload F dX5_countOf_57 0 rfl ?_
            refine g_goto F 63 dX5_countOf_59 (by decide) ?_
            exact K _ _ _ _ dX5_countOf_63 rfl ⟨by first | (rw [← e0]; done) | (rw [← e0]; rfl), rfl⟩
        · refine g_lload_n F dX5_countOf_22 rfl 1 rfl ?_
          refine g_ldc2 F (v := 255) (by decide +kernel) dX5_countOf_23 ?_
          refine g_land F dX5_countOf_26 ?_
          refine g_l2i F dX5_countOf_27 ?_
          refine g_bipush F (v := 33) dX5_countOf_28 (by decide +kernel) ?_
          refine g_bipush F (v := 126) dX5_countOf_30 (by decide +kernel) ?_
          refine g_callSN F (kX8_isWithin l _ _ _) ⟨va_cnB 3 F.1.2.2.2.2 gX5_countOf_X8_isWithin_n34 rfl rfl rfl (F.2.2.2.1.1 (RX5, 34, yX8_isWithin, "ShadeCards") (by decide +kernel)) (F.1.2.2.2.2 (.initialized RX8) (by decide +kernel)) (by decide +kernel) ⟨Nat.le_of_ble_eq_true rfl, Nat.le_of_ble_eq_true rfl⟩, F.1.2.2.2.2 (.static yX8_isWithin) (by decide +kernel), trivial⟩ rfl rfl rfl (Nat.le_of_ble_eq_true rfl) dX5_countOf_32 ⟨Nat.le_of_ble_eq_true rfl, Nat.le_of_ble_eq_true rfl⟩ (g_det ?_)
          refine g_ifB_ne F 40 dX5_countOf_35 (by decide) (fun h2 => ?_) (fun h2 => ?_)
          · refine g_lload_n F dX5_countOf_40 rfl 1 rfl ?_
            refine g_bipush F (v := 8) dX5_countOf_41 (by decide +kernel) ?_
            refine g_lushr F dX5_countOf_43 ?_
            refine g_lstore_n F (lv2 := [(2, _), (4, _), (0, _)]) dX5_countOf_44 rfl (by decide) rfl ?_
            refine g_iinc F (lv2 := [(4, _), (2, _), (0, _)]) dX5_countOf_45 1 rfl (nI_1 _) (by decide) rfl ?_
            refine g_goto F 5 dX5_countOf_48 (by decide) ?_
            refine g_lv (lv2 := [(4, _), (2, _), (0, _)]) [0, 1, 2] rfl ?_
            exact g_is rfl rfl (ihi (i + 1) (by omega) (by rw [show 8 - i = (8 - (i + 1)) + 1 by omega, coF, if_neg (fun z => h1 (lg_eq0.mpr z)), if_pos h2] at hyi; exact hyi))
          · have e0 := hyi
            rw [show 8 - i = (8 - (i + 1)) + 1 by omega, coF, if_neg (fun z => h1 (lg_eq0.mpr z)), if_neg h2] at e0
            refine g_iconst F (v := -1) dX5_countOf_38 (by decide) ?_
            exact K _ _ _ _ dX5_countOf_39 rfl ⟨by first | (rw [← e0]; done) | (rw [← e0]; rfl), rfl⟩
  refine g_lv (lv2 := [(4, _), (2, _), (0, _)]) [0, 1, 2] rfl ?_
  exact g_is rfl rfl (LP (8 - 0) (0) (by omega) (by rw [Nat.sub_zero]; exact hFF))

theorem dn_ {c i : Nat} (h : i < c) : nI (c - i) - 1 = nI (c - (i + 1)) := by
  have e := pk_sub (a := c - i) (b := 1) (by omega)
  rw [show c - (i + 1) = c - i - 1 by omega]; exact e
theorem dn_1 (x : Int32) : x + Int32.ofInt (-1) = x - 1 := by rw [Int32.sub_eq_add_neg]; rfl
theorem ap_mem (M : Mm) (A g : Nat → Int32) (k : Nat) (v y : Int32) : va_up (va_up (va_up (va_up M 565 A) 564 g) 565 (upd (va_up (va_up M 565 A) 564 g 565) k v)) 564 (upd (va_up (va_up (va_up M 565 A) 564 g) 565 (upd (va_up (va_up M 565 A) 564 g 565) k v) 564) 2 y) = va_up (va_up M 565 (upd A k v)) 564 (upd g 2 y) := by
  funext j
  by_cases h1 : j = 564
  · subst h1; simp [va_up]
  · by_cases h2 : j = 565
    · subst h2; simp [va_up]
    · simp [va_up, h1, h2]
theorem dn_z {c i : Nat} (h : c - i = 0) : nI (c - i) - 1 < 0 := by rw [h]; decide
theorem nI_ge0 (n : Nat) (h : n < 1000) : (0 : Int32) ≤ nI n := Int32.not_lt.mp (nI_pos (by omega))
theorem dn_p {c i : Nat} (h : i < c) (hc : c < 1000) : ¬ nI (c - i) - 1 < 0 := by rw [dn_ h]; exact nI_pos (by omega)

abbrev rmX5_append : Room := { frames := 1, cells := 0, slots := 0, locals := 22 }
theorem iX5_append_5 : ∀ w ∈ u_ws RX5 TX5 6, w ∈ wsX5_append := by decide +kernel
set_option maxHeartbeats 800000 in
set_option maxRecDepth 100000 in
theorem kX5_append (l : Launch) {M : Mm} (x : Int64) (c L : Nat) (hc : c ≤ 8) (hcL : L + c ≤ 60) (hL : M 564 2 = nI L) : Ct l yX5_append wsX5_append rmX5_append (fun B => [.ref (B + 564), .long x, .int (nI c)]) M (fun _ v u => v = none ∧ u = va_up (va_up M 565 (apS x c L (M 565) c)) 564 (upd (M 564) 2 (nI (L + c)))) := by
  refine Ct.ofV (own := RX5) (by decide +kernel) rfl rfl (fun B => Nat.le_of_ble_eq_true rfl) ?_
  intro pp ee ss mm aa bb me c9 DD ca B Tl AA QQ F K
  show G pp l ee rmX5_append ss mm aa bb me c9 QQ DD ca B Tl AA 5 0 0 M 0 [(0, .ref (B + 564)), (1, .long x), (3, .int (nI c))] []
  refine g_iload_n F dX5_append_0 rfl 2 rfl ?_
  refine g_iconst F (v := 1) dX5_append_1 (by decide) ?_
  refine g_isub F dX5_append_2 ?_
  refine g_istore F (lv2 := [(4, _), (0, _), (1, _), (3, _)]) dX5_append_3 (by decide) rfl ?_
  have LP : ∀ (ni i : Nat), i + ni = c → G pp l ee rmX5_append ss mm aa bb me c9 QQ DD ca B Tl AA 5 0 0 (va_up (va_up M 565 (apS x c L (M 565) i)) 564 (upd (M 564) 2 (nI (L + i)))) 5 [(4, .int (nI (c - i) - 1)), (0, .ref (B + 564)), (1, .long x), (3, .int (nI c))] [] := by
    intro ni
    induction ni with
    | zero =>
      intro i hni
      refine g_iload F dX5_append_5 0 rfl ?_
      refine g_if_lt F 61 dX5_append_7 (by decide) (fun h1 => ?_) (fun h1 => ?_)
      · obtain rfl : i = c := by omega
        exact K _ _ _ dX5_append_61 ⟨rfl, rfl⟩
      · exact absurd (dn_z (by omega)) h1
    | succ ni ihi =>
      intro i hni
      refine g_iload F dX5_append_5 0 rfl ?_
      refine g_if_lt F 61 dX5_append_7 (by decide) (fun h1 => ?_) (fun h1 => ?_)
      · exact absurd h1 (dn_p (by omega) (by omega))
      · refine g_aload_n F dX5_append_10 rfl 1 rfl ?_
        refine gg5_length F iX5_append_5 r564 (by decide +kernel) dX5_append_11 ?_
        refine g_top (y := nI (L + i)) (by rfl) ?_
        refine g_iconst F (v := 0) dX5_append_14 (by decide) ?_
        refine g_bipush F (v := 59) dX5_append_15 (by decide +kernel) ?_
        refine g_callSN F (kX8_isWithin l _ _ _) ⟨va_cnB 3 F.1.2.2.2.2 gX5_append_X8_isWithin_n34 rfl rfl rfl (F.2.2.2.1.1 (RX5, 34, yX8_isWithin, "ShadeCards") (by decide +kernel)) (F.1.2.2.2.2 (.initialized RX8) (by decide +kernel)) (by decide +kernel) ⟨Nat.le_of_ble_eq_true rfl, Nat.le_of_ble_eq_true rfl⟩, F.1.2.2.2.2 (.static yX8_isWithin) (by decide +kernel), trivial⟩ rfl rfl rfl (Nat.le_of_ble_eq_true rfl) dX5_append_17 ⟨Nat.le_of_ble_eq_true rfl, Nat.le_of_ble_eq_true rfl⟩ (g_det ?_)
        refine g_ifB_eq F 55 dX5_append_20 (by decide) (fun h2 => ?_) (fun h2 => ?_)
        · exact absurd ⟨nI_ge0 _ (by omega), (nI_leI (a := L + i) (b := 59) (by omega) (by omega)).mpr (by omega)⟩ h2
        · refine g_aload_n F dX5_append_23 rfl 1 rfl ?_
          refine gg5_signs F iX5_append_5 r564 (by decide +kernel) dX5_append_24 ?_
          refine g_aload_n F dX5_append_27 rfl 1 rfl ?_
          refine gg5_length F iX5_append_5 r564 (by decide +kernel) dX5_append_28 ?_
          refine g_top (y := nI (L + i)) (by rfl) ?_
          refine g_lload_n F dX5_append_31 rfl 2 rfl ?_
          refine g_bipush F (v := 8) dX5_append_32 (by decide +kernel) ?_
          refine g_iload F dX5_append_34 0 rfl ?_
          refine g_imul F dX5_append_36 ?_
          refine g_lushr F dX5_append_37 ?_
          refine g_ldc2 F (v := 255) (by decide +kernel) dX5_append_38 ?_
          refine g_land F dX5_append_41 ?_
          refine g_l2i F dX5_append_42 ?_
          refine g_i2c F dX5_append_43 ?_
          refine g_castore F (sb5 r564) ((L + i)) rfl (by omega) (by decide) (chr_B _ _) dX5_append_44 ?_
          refine g_aload_n F dX5_append_45 rfl 1 rfl ?_
          refine g_dup F dX5_append_46 rfl ?_
          refine gg5_length F iX5_append_5 r564 (by decide +kernel) dX5_append_47 ?_
          refine g_top (y := nI (L + i)) (by rfl) ?_
          refine g_iconst F (v := 1) dX5_append_50 (by decide) ?_
          refine g_iadd F dX5_append_51 ?_
          refine g_top (nI_add ((L + i)) (1)) ?_
          refine gp5_length F iX5_append_5 r564 rfl (by decide +kernel) dX5_append_52 ?_
          refine g_iinc F (lv2 := [(4, _), (0, _), (1, _), (3, _)]) dX5_append_55 0 rfl rfl (by decide) rfl ?_
          refine g_goto F 5 dX5_append_58 (by decide) ?_
          refine g_lv (lv2 := [(4, _), (0, _), (1, _), (3, _)]) [0, 1, 2, 3] rfl ?_
          exact g_is (by refine (ap_mem M _ _ _ _ _).trans ?_; rw [upd2]; rfl) (by rw [dn_1, dn_ (show i < c by omega)]) (ihi (i + 1) (by omega))
  refine g_lv (lv2 := [(4, _), (0, _), (1, _), (3, _)]) [0, 1, 2, 3] rfl ?_
  exact g_is (by rw [Nat.add_zero, ← hL, upd_id, show apS x c L (M 565) 0 = M 565 from rfl, up_id, up_id]) rfl (LP (c - 0) (0) (by omega))
