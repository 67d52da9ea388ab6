/-- reading the pad: a part is taken, carried out, and the sign behind it -/
abbrev rdT (U : Mm) : PR := tpF (U 565) (U 564)
abbrev rdU (U : Mm) : Mm := va_up U 564 (rdT U).2
def rdD (U : Mm) : Mm := coM (rdU U) (rdU U 564 3) (rdU U 564 4) (rdU U 564 5)
def rdN (U : Mm) : Mm := va_up (rdD U) 564 (tsF (rdD U 565) (rdD U 564) 59).2
def rdI (M : Mm) : Nat → Mm
  | 0 => M
  | i + 1 => rdN (rdI M i)
def rdE : Nat → Mm → Mm
  | 0, U => U
  | n + 1, U => if (rdT U).1 = true then rdE n (rdN U) else rdU U
/-- before reading: the pad was looked through, the state recorded -/
abbrev rdF (M : Mm) : Int32 × (Nat → Int32) := ffF (M 565) 60 (upd (M 564) 1 0)
def rdR (M : Mm) (h : Nat) : Mm := recM (va_up M 564 (rdF M).2) h 1
def rdS (M : Mm) (h : Nat) : Mm := va_up (rdR M h) 564 (upd (rdR M h 564) 1 0)
def rdOk (U : Mm) : Prop := CJ U 1 ∧ (∃ n, n ≤ 20 ∧ U 1 5 = nI n ∧ nchS U 1 n) ∧ (U 564 3 = 111 ∨ U 564 3 = 114 → 0 ≤ U 564 4 ∧ U 564 4 ≤ 2) ∧ (U 564 3 = 102 ∨ U 564 3 = 100 → 0 ≤ U 564 4 ∧ U 564 4 ≤ 7) ∧ (U 564 3 = 46 → ∃ m, m < 1000 ∧ U 564 4 = nI m)

abbrev rmX8_read : Room := { frames := 8, cells := 61, slots := 366, locals := 145 }
theorem iX8_read_5 : ∀ w ∈ u_ws RX5 TX5 6, w ∈ wsX8_read := by decide +kernel
theorem iX8_read_6 : ∀ w ∈ u_ws RX6 TX6 10, w ∈ wsX8_read := by decide +kernel
theorem iX8_read_8 : ∀ w ∈ u_ws RX8 TX8 6, w ∈ wsX8_read := by decide +kernel
set_option maxHeartbeats 400000 in
set_option maxRecDepth 100000 in
theorem kX8_read (l : Launch) (hls : l.stackTraces = false) {M : Mm} {h : Nat} (hS : hsS (M 142)) (hh6 : h ≤ 6) (hh : M 141 1 = nI h) (hG : ∀ i, i < 60 → (∀ j, j < i + 1 → (rdT (rdI (rdS M h) j)).1 = true) → rdOk (rdU (rdI (rdS M h) i))) : Cx l yX8_read wsX8_read rmX8_read (fun B => [.ref (B + 0)]) M (fun _ v u => (rdF M).1 = -1 ∧ v = some (.int (rdE 60 (rdS M h) 1 5 - rdR M h 1 5)) ∧ u = va_up (rdE 60 (rdS M h)) 564 (upd (rdE 60 (rdS M h) 564) 2 0)) (fun E u => E = xA ∧ ¬ (rdF M).1 = -1 ∧ u = va_up M 564 (rdF M).2) := by
  refine Cx.ofI (own := RX8) hls (by decide +kernel) rfl rfl (fun B => Nat.le_of_ble_eq_true rfl) ?_
  intro pp ee ss mm aa bb me c9 DD ca B Tl AA QQ F K KT KN
  show G pp l ee rmX8_read ss mm aa bb me c9 QQ DD ca B Tl AA 3 0 0 M 0 [(0, .ref (B + 0))] []
  generalize hEE : rdE 60 (rdS M h) = EE at K
  refine g_aload_n F dX8_read_0 rfl 0 rfl ?_
  refine gg8_pad F iX8_read_8 r0 (by decide +kernel) dX8_read_1 ?_
  refine g_callV F (kX5_findFault l) (cwV 0 F.1.2.2.2.2 gX8_read_X5_findFault rfl rfl rfl (by decide +kernel) ⟨Nat.le_of_ble_eq_true rfl, Nat.le_of_ble_eq_true rfl⟩) r564 (by decide) rfl rfl rfl rfl (Nat.le_of_ble_eq_true rfl) dX8_read_4 ⟨Nat.le_of_ble_eq_true rfl, Nat.le_of_ble_eq_true rfl⟩ (g_det ?_)
  refine g_iconst F (v := -1) dX8_read_7 (by decide) ?_
  refine g_icmp_ne F 15 dX8_read_8 (by decide) (fun h1 => ?_) (fun h1 => ?_)
  · refine g_iconst F (v := 0) dX8_read_15 (by decide) ?_
    refine x_callS F (kX8_demand l hls _) (va_cwS 1 F.1.2.2.2.2 gX8_read_X8_demand rfl rfl rfl (by decide +kernel) ⟨Nat.le_of_ble_eq_true rfl, Nat.le_of_ble_eq_true rfl⟩) rfl rfl rfl (Nat.le_of_ble_eq_true rfl) dX8_read_16 ⟨Nat.le_of_ble_eq_true rfl, Nat.le_of_ble_eq_true rfl⟩ (fun v9 u9 h9 => absurd rfl h9.1) (fun E9 u9 x9 => KT E9 u9 _ _ _ _ (Nat.le_of_ble_eq_true rfl) (Nat.le_of_ble_eq_true rfl) ⟨x9.1, h1, x9.2.2⟩)
  · refine g_iconst F (v := 1) dX8_read_11 (by decide) ?_
    refine g_goto F 16 dX8_read_12 (by decide) ?_
    refine x_callS F (kX8_demand l hls _) (va_cwS 1 F.1.2.2.2.2 gX8_read_X8_demand rfl rfl rfl (by decide +kernel) ⟨Nat.le_of_ble_eq_true rfl, Nat.le_of_ble_eq_true rfl⟩) rfl rfl rfl (Nat.le_of_ble_eq_true rfl) dX8_read_16 ⟨Nat.le_of_ble_eq_true rfl, Nat.le_of_ble_eq_true rfl⟩ (fun v9 u9 h9 => ?_) (fun E9 u9 x9 => absurd x9.2.1 (by decide))
    obtain ⟨-, rfl, e6⟩ := h9
    obtain rfl := e6.symm
    refine g_aload_n F dX8_read_19 rfl 0 rfl ?_
    refine gg8_history F iX8_read_8 r0 (by decide +kernel) dX8_read_20 ?_
    refine g_aload_n F dX8_read_23 rfl 0 rfl ?_
    refine gg8_now F iX8_read_8 r0 (by decide +kernel) dX8_read_24 ?_
    refine g_callV F (kX2_record l (M := va_up M 564 (rdF M).2) (n := h) r1 (by decide) hS hh6 hh) (cwV 1 F.1.2.2.2.2 gX8_read_X2_record rfl rfl rfl (by decide +kernel) ⟨Nat.le_of_ble_eq_true rfl, Nat.le_of_ble_eq_true rfl⟩) r141 (by decide) rfl rfl rfl rfl (Nat.le_of_ble_eq_true rfl) dX8_read_27 ⟨Nat.le_of_ble_eq_true rfl, Nat.le_of_ble_eq_true rfl⟩ (g_det ?_)
    refine g_aload_n F dX8_read_30 rfl 0 rfl ?_
    refine gg8_now F iX8_read_8 r0 (by decide +kernel) dX8_read_31 ?_
    refine gg6_noticeCount F iX8_read_6 r1 (by decide +kernel) dX8_read_34 ?_
    refine g_istore_n F (lv2 := [(1, _), (0, _)]) dX8_read_37 rfl (by decide) rfl ?_
    refine g_aload_n F dX8_read_38 rfl 1 rfl ?_
    refine gg8_pad F iX8_read_8 r0 (by decide +kernel) dX8_read_39 ?_
    refine g_callV F (kX5_goToStart l) (cwV 0 F.1.2.2.2.2 gX8_read_X5_goToStart rfl rfl rfl (by decide +kernel) ⟨Nat.le_of_ble_eq_true rfl, Nat.le_of_ble_eq_true rfl⟩) r564 (by decide) rfl rfl rfl rfl (Nat.le_of_ble_eq_true rfl) dX8_read_42 ⟨Nat.le_of_ble_eq_true rfl, Nat.le_of_ble_eq_true rfl⟩ (g_det ?_)
    refine g_iconst F (v := 0) dX8_read_45 (by decide) ?_
    refine g_istore_n F (lv2 := [(2, _), (1, _), (0, _)]) dX8_read_46 rfl (by decide) rfl ?_
    have LP : ∀ (ni i : Nat), i + ni = 60 → (rdE (60 - i) (rdI (rdS M h) i) = EE ∧ ∀ j, j < i → (rdT (rdI (rdS M h) j)).1 = true) → G pp l ee rmX8_read ss mm aa bb me c9 QQ DD ca B Tl AA 3 (1 + i) (6 + 6 * i) ((rdI (rdS M h) i)) 47 [(2, .int (nI i)), (0, .ref (B + 0)), (1, .int (rdR M h 1 5))] [] := by
      intro ni
      induction ni with
      | zero =>
        intro i hni hyi
        refine g_iload_n F dX8_read_47 rfl 0 rfl ?_
        refine g_bipush F (v := 60) dX8_read_48 (by decide +kernel) ?_
        refine g_icmpN_ge F 104 dX8_read_50 (by decide) (i) (60) rfl rfl (by omega) (by omega) (fun hci => ?_) (fun hci => ?_)
        · have e0 : rdI (rdS M h) i = EE := by have e1 := hyi.1; rw [show 60 - i = 0 by omega] at e1; exact e1
          refine g_mem e0 ?_
          refine g_aload_n F dX8_read_104 rfl 1 rfl ?_
          refine gg8_pad F iX8_read_8 r0 (by decide +kernel) dX8_read_105 ?_
          refine g_callV F (kX5_empty l) (cwV 0 F.1.2.2.2.2 gX8_read_X5_empty rfl rfl rfl (by decide +kernel) ⟨Nat.le_of_ble_eq_true rfl, Nat.le_of_ble_eq_true rfl⟩) r564 (by decide) rfl rfl rfl rfl (Nat.le_of_ble_eq_true rfl) dX8_read_108 ⟨(by show 1 + i + 0 ≤ 61; omega), (by show 6 + 6 * i + 0 ≤ 366; omega)⟩ (g_det ?_)
          refine g_aload_n F dX8_read_111 rfl 1 rfl ?_
          refine gg8_now F iX8_read_8 r0 (by decide +kernel) dX8_read_112 ?_
          refine gg6_noticeCount F iX8_read_6 r1 (by decide +kernel) dX8_read_115 ?_
          refine g_iload_n F dX8_read_118 rfl 2 rfl ?_
          refine g_isub F dX8_read_119 ?_
          refine g_widen (k := rmX8_read.cells) (n := rmX8_read.slots) (by show 1 + i ≤ 61; omega) (by show 6 + 6 * i ≤ 366; omega) ?_
          exact K _ _ _ _ dX8_read_120 rfl ⟨h1, rfl, rfl⟩
        · exact absurd hci (by omega)
      | succ ni ihi =>
        intro i hni hyi
        refine g_iload_n F dX8_read_47 rfl 0 rfl ?_
        refine g_bipush F (v := 60) dX8_read_48 (by decide +kernel) ?_
        refine g_icmpN_ge F 104 dX8_read_50 (by decide) (i) (60) rfl rfl (by omega) (by omega) (fun hci => ?_) (fun hci => ?_)
        · exact absurd hci (by omega)
        · refine g_aload_n F dX8_read_53 rfl 1 rfl ?_
          refine gg8_pad F iX8_read_8 r0 (by decide +kernel) dX8_read_54 ?_
          refine g_callV F (kX5_takePart l) (cwV 0 F.1.2.2.2.2 gX8_read_X5_takePart rfl rfl rfl (by decide +kernel) ⟨Nat.le_of_ble_eq_true rfl, Nat.le_of_ble_eq_true rfl⟩) r564 (by decide) rfl rfl rfl rfl (Nat.le_of_ble_eq_true rfl) dX8_read_57 ⟨(by show 1 + i + 0 ≤ 61; omega), (by show 6 + 6 * i + 0 ≤ 366; omega)⟩ (g_det ?_)
          refine g_ifB_eq F 104 dX8_read_60 (by decide) (fun h2 => ?_) (fun h2 => ?_)
          · have e0 : rdU (rdI (rdS M h) i) = EE := by have e1 := hyi.1; rw [show 60 - i = (60 - (i + 1)) + 1 by omega, rdE, if_neg h2] at e1; exact e1
            refine g_mem e0 ?_
            refine g_aload_n F dX8_read_104 rfl 1 rfl ?_
            refine gg8_pad F iX8_read_8 r0 (by decide +kernel) dX8_read_105 ?_
            refine g_callV F (kX5_empty l) (cwV 0 F.1.2.2.2.2 gX8_read_X5_empty rfl rfl rfl (by decide +kernel) ⟨Nat.le_of_ble_eq_true rfl, Nat.le_of_ble_eq_true rfl⟩) r564 (by decide) rfl rfl rfl rfl (Nat.le_of_ble_eq_true rfl) dX8_read_108 ⟨(by show 1 + i + 0 ≤ 61; omega), (by show 6 + 6 * i + 0 ≤ 366; omega)⟩ (g_det ?_)
            refine g_aload_n F dX8_read_111 rfl 1 rfl ?_
            refine gg8_now F iX8_read_8 r0 (by decide +kernel) dX8_read_112 ?_
            refine gg6_noticeCount F iX8_read_6 r1 (by decide +kernel) dX8_read_115 ?_
            refine g_iload_n F dX8_read_118 rfl 2 rfl ?_
            refine g_isub F dX8_read_119 ?_
            refine g_widen (k := rmX8_read.cells) (n := rmX8_read.slots) (by show 1 + i ≤ 61; omega) (by show 6 + 6 * i ≤ 366; omega) ?_
            exact K _ _ _ _ dX8_read_120 rfl ⟨h1, rfl, rfl⟩
          · obtain ⟨hJ7, ⟨n, hn20, hn7, hN7⟩, hO7, hC7, hP7⟩ := hG i (by omega) (fun j hj => by by_cases h7 : j = i; (rw [h7]; exact h2); exact hyi.2 j (by omega))
            refine g_aload_n F dX8_read_63 rfl 1 rfl ?_
            refine g_aload_n F dX8_read_64 rfl 1 rfl ?_
            refine gg8_pad F iX8_read_8 r0 (by decide +kernel) dX8_read_65 ?_
            refine gg5_kind F iX8_read_5 r564 (by decide +kernel) dX8_read_68 ?_
            refine g_aload_n F dX8_read_71 rfl 1 rfl ?_
            refine gg8_pad F iX8_read_8 r0 (by decide +kernel) dX8_read_72 ?_
            refine gg5_first F iX8_read_5 r564 (by decide +kernel) dX8_read_75 ?_
            refine g_aload_n F dX8_read_78 rfl 1 rfl ?_
            refine gg8_pad F iX8_read_8 r0 (by decide +kernel) dX8_read_79 ?_
            refine gg5_second F iX8_read_5 r564 (by decide +kernel) dX8_read_82 ?_
            refine g_callV F (kX8_carryOut l hls (M := rdU (rdI (rdS M h) i)) hn7 hn20 hN7 hJ7 _ _ _ hO7 hC7 hP7) (cwV 3 F.1.2.2.2.2 gX8_read_X8_carryOut rfl rfl rfl (by decide +kernel) ⟨Nat.le_of_ble_eq_true rfl, Nat.le_of_ble_eq_true rfl⟩) r0 (by decide) rfl rfl rfl rfl (Nat.le_of_ble_eq_true rfl) dX8_read_85 ⟨(by show 1 + i + 1 ≤ 61; omega), (by show 6 + 6 * i + 6 ≤ 366; omega)⟩ (g_det ?_)
            refine g_aload_n F dX8_read_88 rfl 1 rfl ?_
            refine gg8_pad F iX8_read_8 r0 (by decide +kernel) dX8_read_89 ?_
            refine g_bipush F (v := 59) dX8_read_92 (by decide +kernel) ?_
            refine g_callV F (kX5_takeSign l _) (cwV 1 F.1.2.2.2.2 gX8_read_X5_takeSign rfl rfl rfl (by decide +kernel) ⟨Nat.le_of_ble_eq_true rfl, Nat.le_of_ble_eq_true rfl⟩) r564 (by decide) rfl rfl rfl rfl (Nat.le_of_ble_eq_true rfl) dX8_read_94 ⟨(by show 1 + i + 1 + 0 ≤ 61; omega), (by show 6 + 6 * i + 6 + 0 ≤ 366; omega)⟩ (g_det ?_)
            refine g_pop F dX8_read_97 rfl ?_
            refine g_iinc F (lv2 := [(2, _), (0, _), (1, _)]) dX8_read_98 0 rfl (nI_1 _) (by decide) rfl ?_
            refine g_goto F 47 dX8_read_101 (by decide) ?_
            refine g_lv (lv2 := [(2, _), (0, _), (1, _)]) [0, 1, 2] rfl ?_
            refine g_widen (k := 1 + (i + 1)) (n := 6 + 6 * (i + 1)) (by show 1 + i + 1 ≤ 1 + (i + 1); omega) (by show 6 + 6 * i + 6 ≤ 6 + 6 * (i + 1); omega) ?_
            exact g_is rfl rfl (ihi (i + 1) (by omega) ⟨by have e1 := hyi.1; rw [show 60 - i = (60 - (i + 1)) + 1 by omega, rdE, if_pos h2] at e1; exact e1, fun j hj => by by_cases h7 : j = i; (rw [h7]; exact h2); exact hyi.2 j (by omega)⟩)
    refine g_lv (lv2 := [(2, _), (0, _), (1, _)]) [0, 2, 1] rfl ?_
    exact g_is rfl rfl (LP (60 - 0) (0) (by omega) ⟨hEE, fun j h => absurd h (by omega)⟩)
