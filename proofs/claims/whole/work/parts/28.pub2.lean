def twS (M : Mm) (t b : Nat) : Nat → Nat → Int32
  | 0 => M 566
  | i + 1 => upd (twS M t b i) i (sumF (fun j => shC M (chP 1 i) (nI j)) t (b + 1 - t))
theorem shC_o {M : Mm} {g : Nat → Int32} {q r : Nat} (h : r ≠ q) (x : Int32) : shC (va_up M q g) r x = shC M r x := by unfold shC; rw [va_up_ne _ _ h]

abbrev rmX8_toWatch : Room := { frames := 7, cells := 1, slots := 6, locals := 110 }
theorem iX8_toWatch_6 : ∀ w ∈ u_ws RX6 TX6 10, w ∈ wsX8_toWatch := by decide +kernel
theorem iX8_toWatch_8 : ∀ w ∈ u_ws RX8 TX8 6, w ∈ wsX8_toWatch := by decide +kernel
set_option maxHeartbeats 400000 in
set_option maxRecDepth 100000 in
theorem kX8_toWatch (l : Launch) (hls : l.stackTraces = false) {M : Mm} {t : Nat} (ht : t < 96) (h9t : M 1 9 = nI t) (x z : Int32) : Cx l yX8_toWatch wsX8_toWatch rmX8_toWatch (fun B => [.ref (B + 0), .int x, .int z]) M (fun _ v u => ∃ k, 1 ≤ k ∧ k ≤ 96 ∧ x = nI k ∧ v = some (.int (if z = 0 then (sbF (twS M t (min 95 (t + k - 1)) 8) 256).1 else spF (twS M t (min 95 (t + k - 1)) 8) 3)) ∧ u = va_up M 566 (twS M t (min 95 (t + k - 1)) 8)) (fun E u => E = xA ∧ ¬ (1 ≤ x ∧ x ≤ 96) ∧ u = M) := by
  refine Cx.ofI (own := RX8) hls (by decide +kernel) rfl rfl (fun B => Nat.le_of_ble_eq_true rfl) ?_
  intro pp ee ss mm aa bb me c9 DD ca B Tl AA QQ F K KT KN
  show G pp l ee rmX8_toWatch ss mm aa bb me c9 QQ DD ca B Tl AA 5 0 0 M 0 [(0, .ref (B + 0)), (1, .int x), (2, .int z)] []
  refine g_iload_n F dX8_toWatch_0 rfl 1 rfl ?_
  refine g_iconst F (v := 1) dX8_toWatch_1 (by decide) ?_
  refine g_bipush F (v := 96) dX8_toWatch_2 (by decide +kernel) ?_
  refine g_callS F (kX8_isWithin l _ _ _) (va_cwS 3 F.1.2.2.2.2 gX8_toWatch_X8_isWithin rfl rfl rfl (by decide +kernel) ⟨Nat.le_of_ble_eq_true rfl, Nat.le_of_ble_eq_true rfl⟩) rfl rfl rfl (Nat.le_of_ble_eq_true rfl) dX8_toWatch_4 ⟨Nat.le_of_ble_eq_true rfl, Nat.le_of_ble_eq_true rfl⟩ (g_det ?_)
  refine x_callS F (kX8_demand l hls _) (va_cwS 1 F.1.2.2.2.2 gX8_toWatch_X8_demand rfl rfl rfl (by decide +kernel) ⟨Nat.le_of_ble_eq_true rfl, Nat.le_of_ble_eq_true rfl⟩) rfl rfl rfl (Nat.le_of_ble_eq_true rfl) dX8_toWatch_7 ⟨Nat.le_of_ble_eq_true rfl, Nat.le_of_ble_eq_true rfl⟩ (fun v9 u9 h9 => ?_) (fun E9 u9 x9 => KT E9 u9 _ _ _ _ (Nat.le_of_ble_eq_true rfl) (Nat.le_of_ble_eq_true rfl) ⟨x9.1, b2i_0 x9.2.1, x9.2.2⟩)
  obtain ⟨hd9, rfl, e6⟩ := h9
  obtain rfl := e6.symm
  replace hd9 := b2i_n0 hd9
  obtain ⟨k, hk1, hk2, rfl⟩ := of_rng (n := 96) (by decide) hd9
  refine g_bipush F (v := 95) dX8_toWatch_10 (by decide +kernel) ?_
  refine g_aload_n F dX8_toWatch_12 rfl 0 rfl ?_
  refine gg8_now F iX8_toWatch_8 r0 (by decide +kernel) dX8_toWatch_13 ?_
  refine gg6_tick F iX8_toWatch_6 r1 (by decide +kernel) dX8_toWatch_16 ?_
  refine g_top h9t ?_
  refine g_iload_n F dX8_toWatch_19 rfl 1 rfl ?_
  refine g_iadd F dX8_toWatch_20 ?_
  refine g_top (nI_add (t) (k)) ?_
  refine g_iconst F (v := 1) dX8_toWatch_21 (by decide) ?_
  refine g_isub F dX8_toWatch_22 ?_
  refine g_top (pk_sub (a := (t + k)) (b := 1) (by omega)) ?_
  refine g_mmin F (by decide +kernel) (by decide +kernel) (by decide +kernel) (by decide +kernel) (Nat.le_of_ble_eq_true rfl) (Nat.le_of_ble_eq_true rfl) (Nat.le_of_ble_eq_true rfl) (Nat.le_of_ble_eq_true rfl) dX8_toWatch_23 ?_
  refine g_top (y := nI (min 95 (t + k - 1))) (nI_min (a := 95) (b := t + k - 1) (by decide) (by omega)) ?_
  refine g_istore_n F (lv2 := [(3, _), (0, _), (1, _), (2, _)]) dX8_toWatch_26 rfl (by decide) rfl ?_
  refine g_iconst F (v := 0) dX8_toWatch_27 (by decide) ?_
  refine g_istore F (lv2 := [(4, _), (3, _), (0, _), (1, _), (2, _)]) dX8_toWatch_28 (by decide) rfl ?_
  have LP : ∀ (ni i : Nat), i + ni = 8 → G pp l ee rmX8_toWatch ss mm aa bb me c9 QQ DD ca B Tl AA 5 1 6 (va_up M 566 (twS M t (min 95 (t + k - 1)) i)) 30 [(4, .int (nI i)), (0, .ref (B + 0)), (1, .int (nI k)), (2, .int z), (3, .int (nI (min 95 (t + k - 1))))] [] := by
    intro ni
    induction ni with
    | zero =>
      intro i hni
      refine g_iload F dX8_toWatch_30 0 rfl ?_
      refine g_bipush F (v := 8) dX8_toWatch_32 (by decide +kernel) ?_
      refine g_icmpN_ge F 71 dX8_toWatch_34 (by decide) (i) (8) rfl rfl (by omega) (by omega) (fun hci => ?_) (fun hci => ?_)
      · obtain rfl : i = 8 := by omega
        refine g_iload_n F dX8_toWatch_71 rfl 3 rfl ?_
        refine g_if_eq F 82 dX8_toWatch_72 (by decide) (fun h1 => ?_) (fun h1 => ?_)
        · refine g_aload_n F dX8_toWatch_82 rfl 1 rfl ?_
          refine g_callV F (kX8_smokiestBySets l) (cwV 0 F.1.2.2.2.2 gX8_toWatch_X8_smokiestBySets rfl rfl rfl (by decide +kernel) ⟨Nat.le_of_ble_eq_true rfl, Nat.le_of_ble_eq_true rfl⟩) r0 (by decide) rfl rfl rfl rfl (Nat.le_of_ble_eq_true rfl) dX8_toWatch_83 ⟨Nat.le_of_ble_eq_true rfl, Nat.le_of_ble_eq_true rfl⟩ (g_det ?_)
          refine g_widen (k := rmX8_toWatch.cells) (n := rmX8_toWatch.slots) (Nat.le_of_ble_eq_true rfl) (Nat.le_of_ble_eq_true rfl) ?_
          exact K _ _ _ _ dX8_toWatch_86 rfl ⟨k, hk1, hk2, rfl, by first | (rw [if_pos h1, va_up_self]; done) | (rw [if_neg h1, va_up_self]; done), rfl⟩
        · refine g_aload_n F dX8_toWatch_75 rfl 1 rfl ?_
          refine g_callV F (kX8_smokiestByPicking l) (cwV 0 F.1.2.2.2.2 gX8_toWatch_X8_smokiestByPicking rfl rfl rfl (by decide +kernel) ⟨Nat.le_of_ble_eq_true rfl, Nat.le_of_ble_eq_true rfl⟩) r0 (by decide) rfl rfl rfl rfl (Nat.le_of_ble_eq_true rfl) dX8_toWatch_76 ⟨Nat.le_of_ble_eq_true rfl, Nat.le_of_ble_eq_true rfl⟩ (g_det ?_)
          refine g_goto F 86 dX8_toWatch_79 (by decide) ?_
          refine g_widen (k := rmX8_toWatch.cells) (n := rmX8_toWatch.slots) (Nat.le_of_ble_eq_true rfl) (Nat.le_of_ble_eq_true rfl) ?_
          exact K _ _ _ _ dX8_toWatch_86 rfl ⟨k, hk1, hk2, rfl, by first | (rw [if_pos h1, va_up_self]; done) | (rw [if_neg h1, va_up_self]; done), rfl⟩
      · exact absurd hci (by omega)
    | succ ni ihi =>
      intro i hni
      refine g_iload F dX8_toWatch_30 0 rfl ?_
      refine g_bipush F (v := 8) dX8_toWatch_32 (by decide +kernel) ?_
      refine g_icmpN_ge F 71 dX8_toWatch_34 (by decide) (i) (8) rfl rfl (by omega) (by omega) (fun hci => ?_) (fun hci => ?_)
      · exact absurd hci (by omega)
      · refine g_aload_n F dX8_toWatch_37 rfl 1 rfl ?_
        refine gg8_smokes F iX8_toWatch_8 r0 (by decide +kernel) dX8_toWatch_38 ?_
        refine g_iload F dX8_toWatch_41 0 rfl ?_
        refine g_aload_n F dX8_toWatch_43 rfl 1 rfl ?_
        refine gg8_now F iX8_toWatch_8 r0 (by decide +kernel) dX8_toWatch_44 ?_
        refine gg6_chimneys F iX8_toWatch_6 r1 (by decide +kernel) dX8_toWatch_47 ?_
        refine g_iload F dX8_toWatch_50 0 rfl ?_
        refine g_aaload12 F (sb6 r1).1 (i) rfl (by omega) dX8_toWatch_52 ?_
        refine g_aload_n F dX8_toWatch_53 rfl 1 rfl ?_
        refine gg8_now F iX8_toWatch_8 r0 (by decide +kernel) dX8_toWatch_54 ?_
        refine gg6_tick F iX8_toWatch_6 r1 (by decide +kernel) dX8_toWatch_57 ?_
        refine g_top (y := nI t) (by rw [va_up_ne _ _ (by decide)]; exact h9t) ?_
        refine g_iload_n F dX8_toWatch_60 rfl 4 rfl ?_
        refine g_callV F (kX0_smokeByTicks l (el12 (sb6 r1).1 (by omega)) (t) ((min 95 (t + k - 1)) + 1) (by omega) (by omega) (nI (min 95 (t + k - 1))) (fun i hi => lt_iff (by omega) hi)) (cwV 2 F.1.2.2.2.2 gX8_toWatch_X0_smokeByTicks rfl rfl rfl (by decide +kernel) ⟨Nat.le_of_ble_eq_true rfl, Nat.le_of_ble_eq_true rfl⟩) (el12 (sb6 r1).1 (by omega)) (by decide) rfl rfl rfl rfl (Nat.le_of_ble_eq_true rfl) dX8_toWatch_61 ⟨Nat.le_of_ble_eq_true rfl, Nat.le_of_ble_eq_true rfl⟩ (g_det ?_)
        refine g_top (congrArg (fun f => sumF f t ((min 95 (t + k - 1)) + 1 - t)) (funext (fun j => shC_o (show chP 1 i ≠ 566 by unfold chP; omega) (nI j)))) ?_
        refine g_iastore F a566 (i) rfl (by omega) (by decide) dX8_toWatch_64 ?_
        refine g_iinc F (lv2 := [(4, _), (0, _), (1, _), (2, _), (3, _)]) dX8_toWatch_65 0 rfl (nI_1 _) (by decide) rfl ?_
        refine g_goto F 30 dX8_toWatch_68 (by decide) ?_
        refine g_lv (lv2 := [(4, _), (0, _), (1, _), (2, _), (3, _)]) [0, 1, 2, 3, 4] rfl ?_
        exact g_is (by rw [bx_uu, va_up_self]; rfl) rfl (ihi (i + 1) (by omega))
  refine g_lv (lv2 := [(4, _), (0, _), (1, _), (2, _), (3, _)]) [0, 2, 3, 4, 1] rfl ?_
  exact g_is (up_id M 566).symm rfl (LP (8 - 0) (0) (by omega))

abbrev rmX8_noticesIn : Room := { frames := 7, cells := 1, slots := 6, locals := 124 }
theorem iX8_noticesIn_8 : ∀ w ∈ u_ws RX8 TX8 6, w ∈ wsX8_noticesIn := by decide +kernel
set_option maxHeartbeats 400000 in
set_option maxRecDepth 100000 in
theorem kX8_noticesIn (l : Launch) (hls : l.stackTraces = false) {M : Mm} (hJ : CJ M 1) (x : Int32) : Cx l yX8_noticesIn wsX8_noticesIn rmX8_noticesIn (fun B => [.ref (B + 0), .int x]) M (fun _ v u => ∃ k, 1 ≤ k ∧ k ≤ 200 ∧ x = nI k ∧ v = some (.int (itF (cpR M 71 1) 71 k 71 5 - (cpR M 71 1) 71 5)) ∧ u = itF (cpR M 71 1) 71 k) (fun E u => E = xA ∧ ¬ (1 ≤ x ∧ x ≤ 200) ∧ u = M) := by
  refine Cx.ofI (own := RX8) hls (by decide +kernel) rfl rfl (fun B => Nat.le_of_ble_eq_true rfl) ?_
  intro pp ee ss mm aa bb me c9 DD ca B Tl AA QQ F K KT KN
  show G pp l ee rmX8_noticesIn ss mm aa bb me c9 QQ DD ca B Tl AA 2 0 0 M 0 [(0, .ref (B + 0)), (1, .int x)] []
  have hJ2 : CJ (cpR M 71 1) 71 := CJ_cp hJ
  refine g_iload_n F dX8_noticesIn_0 rfl 1 rfl ?_
  refine g_iconst F (v := 1) dX8_noticesIn_1 (by decide) ?_
  refine g_sipush F (v := 200) dX8_noticesIn_2 (by decide +kernel) ?_
  refine g_callS F (kX8_isWithin l _ _ _) (va_cwS 3 F.1.2.2.2.2 gX8_noticesIn_X8_isWithin rfl rfl rfl (by decide +kernel) ⟨Nat.le_of_ble_eq_true rfl, Nat.le_of_ble_eq_true rfl⟩) rfl rfl rfl (Nat.le_of_ble_eq_true rfl) dX8_noticesIn_5 ⟨Nat.le_of_ble_eq_true rfl, Nat.le_of_ble_eq_true rfl⟩ (g_det ?_)
  refine x_callS F (kX8_demand l hls _) (va_cwS 1 F.1.2.2.2.2 gX8_noticesIn_X8_demand rfl rfl rfl (by decide +kernel) ⟨Nat.le_of_ble_eq_true rfl, Nat.le_of_ble_eq_true rfl⟩) rfl rfl rfl (Nat.le_of_ble_eq_true rfl) dX8_noticesIn_8 ⟨Nat.le_of_ble_eq_true rfl, Nat.le_of_ble_eq_true rfl⟩ (fun v9 u9 h9 => ?_) (fun E9 u9 x9 => KT E9 u9 _ _ _ _ (Nat.le_of_ble_eq_true rfl) (Nat.le_of_ble_eq_true rfl) ⟨x9.1, b2i_0 x9.2.1, x9.2.2⟩)
  obtain ⟨hd9, rfl, e6⟩ := h9
  obtain rfl := e6.symm
  replace hd9 := b2i_n0 hd9
  obtain ⟨k, hk1, hk2, rfl⟩ := of_rng (n := 200) (by decide) hd9
  refine g_aload_n F dX8_noticesIn_11 rfl 0 rfl ?_
  refine gg8_sketch F iX8_noticesIn_8 r0 (by decide +kernel) dX8_noticesIn_12 ?_
  refine g_aload_n F dX8_noticesIn_15 rfl 0 rfl ?_
  refine gg8_now F iX8_noticesIn_8 r0 (by decide +kernel) dX8_noticesIn_16 ?_
  refine g_callV F (kX6_copyFrom l r71 r1 (by omega)) (cwV 1 F.1.2.2.2.2 gX8_noticesIn_X6_copyFrom rfl rfl rfl (by decide +kernel) ⟨Nat.le_of_ble_eq_true rfl, Nat.le_of_ble_eq_true rfl⟩) r71 (by decide) rfl rfl rfl rfl (Nat.le_of_ble_eq_true rfl) dX8_noticesIn_19 ⟨Nat.le_of_ble_eq_true rfl, Nat.le_of_ble_eq_true rfl⟩ (g_det ?_)
  refine g_aload_n F dX8_noticesIn_22 rfl 0 rfl ?_
  refine gg8_sketch F iX8_noticesIn_8 r0 (by decide +kernel) dX8_noticesIn_23 ?_
  refine g_iload_n F dX8_noticesIn_26 rfl 1 rfl ?_
  refine g_callV F (kX6_passTicks l r71 (k := k) (by omega) hJ2) (cwV 1 F.1.2.2.2.2 gX8_noticesIn_X6_passTicks rfl rfl rfl (by decide +kernel) ⟨Nat.le_of_ble_eq_true rfl, Nat.le_of_ble_eq_true rfl⟩) r71 (by decide) rfl rfl rfl rfl (Nat.le_of_ble_eq_true rfl) dX8_noticesIn_27 ⟨Nat.le_of_ble_eq_true rfl, Nat.le_of_ble_eq_true rfl⟩ (g_det ?_)
  refine g_widen (k := rmX8_noticesIn.cells) (n := rmX8_noticesIn.slots) (Nat.le_of_ble_eq_true rfl) (Nat.le_of_ble_eq_true rfl) ?_
  exact K _ _ _ _ dX8_noticesIn_30 rfl ⟨k, hk1, hk2, rfl, rfl, rfl⟩

abbrev rmX8_ticksToNotice : Room := { frames := 7, cells := 1, slots := 6, locals := 124 }
theorem iX8_ticksToNotice_0 : ∀ w ∈ u_ws RX0 TX0 8, w ∈ wsX8_ticksToNotice := by decide +kernel
theorem iX8_ticksToNotice_8 : ∀ w ∈ u_ws RX8 TX8 6, w ∈ wsX8_ticksToNotice := by decide +kernel
set_option maxHeartbeats 400000 in
set_option maxRecDepth 100000 in
theorem kX8_ticksToNotice (l : Launch) (hls : l.stackTraces = false) {M : Mm} (hJ : CJ M 1) (x : Int32) : Cx l yX8_ticksToNotice wsX8_ticksToNotice rmX8_ticksToNotice (fun B => [.ref (B + 0), .int x]) M (fun _ v u => ∃ c, c < 8 ∧ x = nI c ∧ ∃ i, i ≤ 200 ∧ (∀ j, j < i → itF (cpR M 71 1) 71 j (chP 71 c) 4 ≤ itF (cpR M 71 1) 71 0 (chP 71 c) 4) ∧ u = itF (cpR M 71 1) 71 i ∧ (i = 200 ∧ itF (cpR M 71 1) 71 200 (chP 71 c) 4 ≤ itF (cpR M 71 1) 71 0 (chP 71 c) 4 ∧ v = some (.int (-1)) ∨ itF (cpR M 71 1) 71 0 (chP 71 c) 4 < itF (cpR M 71 1) 71 i (chP 71 c) 4 ∧ v = some (.int (nI i)))) (fun E u => E = xI ∧ ¬ (0 ≤ x ∧ x ≤ 7) ∧ u = M) := by
  refine Cx.ofI (own := RX8) hls (by decide +kernel) rfl rfl (fun B => Nat.le_of_ble_eq_true rfl) ?_
  intro pp ee ss mm aa bb me c9 DD ca B Tl AA QQ F K KT KN
  show G pp l ee rmX8_ticksToNotice ss mm aa bb me c9 QQ DD ca B Tl AA 5 0 0 M 0 [(0, .ref (B + 0)), (1, .int x)] []
  have hJ2 : CJ (cpR M 71 1) 71 := CJ_cp hJ
  refine g_aload_n F dX8_ticksToNotice_0 rfl 0 rfl ?_
  refine gg8_sketch F iX8_ticksToNotice_8 r0 (by decide +kernel) dX8_ticksToNotice_1 ?_
  refine g_iload_n F dX8_ticksToNotice_4 rfl 1 rfl ?_
  refine x_callS F (kX8_chimneyOn l hls r71 _) (va_cwS 2 F.1.2.2.2.2 gX8_ticksToNotice_X8_chimneyOn rfl rfl rfl (by decide +kernel) ⟨Nat.le_of_ble_eq_true rfl, Nat.le_of_ble_eq_true rfl⟩) rfl rfl rfl (Nat.le_of_ble_eq_true rfl) dX8_ticksToNotice_5 ⟨Nat.le_of_ble_eq_true rfl, Nat.le_of_ble_eq_true rfl⟩ (fun v9 u9 h9 => ?_) (fun E9 u9 x9 => KT E9 u9 _ _ _ _ (Nat.le_of_ble_eq_true rfl) (Nat.le_of_ble_eq_true rfl) x9)
  obtain ⟨c, hc, e9, rfl, e6⟩ := h9
  obtain rfl := e6.symm
  refine g_astore_n F (lv2 := [(2, _), (0, _), (1, _)]) dX8_ticksToNotice_8 rfl (by decide) rfl ?_
  refine g_aload_n F dX8_ticksToNotice_9 rfl 1 rfl ?_
  refine gg8_sketch F iX8_ticksToNotice_8 r0 (by decide +kernel) dX8_ticksToNotice_10 ?_
  refine g_aload_n F dX8_ticksToNotice_13 rfl 1 rfl ?_
  refine gg8_now F iX8_ticksToNotice_8 r0 (by decide +kernel) dX8_ticksToNotice_14 ?_
  refine g_callV F (kX6_copyFrom l r71 r1 (by omega)) (cwV 1 F.1.2.2.2.2 gX8_ticksToNotice_X6_copyFrom rfl rfl rfl (by decide +kernel) ⟨Nat.le_of_ble_eq_true rfl, Nat.le_of_ble_eq_true rfl⟩) r71 (by decide) rfl rfl rfl rfl (Nat.le_of_ble_eq_true rfl) dX8_ticksToNotice_17 ⟨Nat.le_of_ble_eq_true rfl, Nat.le_of_ble_eq_true rfl⟩ (g_det ?_)
  refine g_aload_n F dX8_ticksToNotice_20 rfl 0 rfl ?_
  refine gg0_finesGiven F iX8_ticksToNotice_0 (el12 (sb6 r71).1 hc) (by decide +kernel) dX8_ticksToNotice_21 ?_
  refine g_istore_n F (lv2 := [(3, _), (2, _), (0, _), (1, _)]) dX8_ticksToNotice_24 rfl (by decide) rfl ?_
  refine g_iconst F (v := 1) dX8_ticksToNotice_25 (by decide) ?_
  refine g_istore F (lv2 := [(4, _), (3, _), (2, _), (0, _), (1, _)]) dX8_ticksToNotice_26 (by decide) rfl ?_
  have LP : ∀ (ni i : Nat), i + ni = 200 → (∀ j, j < i + 1 → itF (cpR M 71 1) 71 j (chP 71 c) 4 ≤ itF (cpR M 71 1) 71 0 (chP 71 c) 4) → G pp l ee rmX8_ticksToNotice ss mm aa bb me c9 QQ DD ca B Tl AA 5 1 6 (itF (cpR M 71 1) 71 i) 28 [(4, .int (nI (i + 1))), (0, .ref (B + 0)), (1, .int x), (2, .ref (B + chP 71 c)), (3, .int (cpR M 71 1 (chP 71 c) 4))] [] := by
    intro ni
    induction ni with
    | zero =>
      intro i hni hyi
      refine g_iload F dX8_ticksToNotice_28 0 rfl ?_
      refine g_sipush F (v := 200) dX8_ticksToNotice_30 (by decide +kernel) ?_
      refine g_icmpN_gt F 60 dX8_ticksToNotice_33 (by decide) ((i + 1)) (200) rfl rfl (by omega) (by omega) (fun hci => ?_) (fun hci => ?_)
      · obtain rfl : i = 200 := by omega
        refine g_iconst F (v := -1) dX8_ticksToNotice_60 (by decide) ?_
        refine g_widen (k := rmX8_ticksToNotice.cells) (n := rmX8_ticksToNotice.slots) (Nat.le_of_ble_eq_true rfl) (Nat.le_of_ble_eq_true rfl) ?_
        exact K _ _ _ _ dX8_ticksToNotice_61 rfl ⟨c, hc, e9, 200, by omega, fun j hj => hyi j (by omega), rfl, Or.inl ⟨rfl, hyi 200 (by omega), rfl⟩⟩
      · exact absurd hci (by omega)
    | succ ni ihi =>
      intro i hni hyi
      obtain ⟨t, p, ht, -, hp8, hC⟩ := itF_CJ hJ2 i
      refine g_iload F dX8_ticksToNotice_28 0 rfl ?_
      refine g_sipush F (v := 200) dX8_ticksToNotice_30 (by decide +kernel) ?_
      refine g_icmpN_gt F 60 dX8_ticksToNotice_33 (by decide) ((i + 1)) (200) rfl rfl (by omega) (by omega) (fun hci => ?_) (fun hci => ?_)
      · exact absurd hci (by omega)
      · refine g_aload_n F dX8_ticksToNotice_36 rfl 1 rfl ?_
        refine gg8_sketch F iX8_ticksToNotice_8 r0 (by decide +kernel) dX8_ticksToNotice_37 ?_
        refine g_callV F (kX6_passTick l r71 ht hp8 hC) (cwV 0 F.1.2.2.2.2 gX8_ticksToNotice_X6_passTick rfl rfl rfl (by decide +kernel) ⟨Nat.le_of_ble_eq_true rfl, Nat.le_of_ble_eq_true rfl⟩) r71 (by decide) rfl rfl rfl rfl (Nat.le_of_ble_eq_true rfl) dX8_ticksToNotice_40 ⟨Nat.le_of_ble_eq_true rfl, Nat.le_of_ble_eq_true rfl⟩ (g_det ?_)
        rw [← ptM_is ht hp8 hC]
        refine g_aload_n F dX8_ticksToNotice_43 rfl 3 rfl ?_
        refine gg0_finesGiven F iX8_ticksToNotice_0 (el12 (sb6 r71).1 hc) (by decide +kernel) dX8_ticksToNotice_44 ?_
        refine g_iload_n F dX8_ticksToNotice_47 rfl 4 rfl ?_
        refine g_icmp_le F 54 dX8_ticksToNotice_48 (by decide) (fun h1 => ?_) (fun h1 => ?_)
        · refine g_iinc F (lv2 := [(4, _), (0, _), (1, _), (2, _), (3, _)]) dX8_ticksToNotice_54 0 rfl (nI_1 _) (by decide) rfl ?_
          refine g_goto F 28 dX8_ticksToNotice_57 (by decide) ?_
          refine g_lv (lv2 := [(4, _), (0, _), (1, _), (2, _), (3, _)]) [0, 1, 2, 3, 4] rfl ?_
          exact g_is rfl rfl (ihi (i + 1) (by omega) (fun j hj => by by_cases h7 : j = i + 1; (rw [h7]; exact h1); exact hyi j (by omega)))
        · have h1 := Int32.not_le.mp h1
          refine g_iload F dX8_ticksToNotice_51 0 rfl ?_
          refine g_widen (k := rmX8_ticksToNotice.cells) (n := rmX8_ticksToNotice.slots) (Nat.le_of_ble_eq_true rfl) (Nat.le_of_ble_eq_true rfl) ?_
          exact K _ _ _ _ dX8_ticksToNotice_53 rfl ⟨c, hc, e9, i + 1, by omega, hyi, rfl, Or.inr ⟨h1, rfl⟩⟩
  refine g_lv (lv2 := [(4, _), (0, _), (1, _), (2, _), (3, _)]) [0, 3, 4, 2, 1] rfl ?_
  exact g_is rfl rfl (LP (200 - 0) (0) (by omega) (fun j hj => by rw [show j = 0 from by omega]; exact Int32.le_refl _))

/-- the sketch under a limit -/
def mlS (M : Mm) (i : Nat) : Mm := va_up (cpR M 71 1) 71 (upd (cpR M 71 1 71) 6 (nI i))
theorem mlS_CJ {M : Mm} {i : Nat} (hi : i < 1000) (h : CJ M 1) : CJ (mlS M i) 71 := by
  have h2 : CJ (cpR M 71 1) 71 := CJ_cp h
  unfold mlS
  unfold CJ CI at *
  obtain ⟨t, p, ht, hp1, hp8, h9, h7, h6, h5⟩ := h2
  rw [va_up_self]
  refine ⟨t, p, ht, hp1, hp8, h9, h7, ?_, h5⟩
  show -1 < nI i
  exact Int32.lt_of_lt_of_le (show (-1 : Int32) < 0 by decide) (nI_pos' (by omega))
theorem mlS_o {M : Mm} {i x : Nat} (h : oR 71 x) : mlS M i x = M x := (va_up_ne _ _ (by omega)).trans (cpR_out h)
/-- a notice comes under the limit i -/
def mlN (M : Mm) (k i : Nat) : Prop := ∃ s, s ≤ k ∧ mlS M i 71 5 < itF (mlS M i) 71 s 71 5 ∧ (∀ j, j < s → itF (mlS M i) 71 j 71 5 = mlS M i 71 5)
def mlG (M : Mm) (k i : Nat) : Prop := ¬ mlS M i 71 5 < itF (mlS M i) 71 k 71 5 ∧ (∀ j, j < k → itF (mlS M i) 71 j 71 5 = mlS M i 71 5)

abbrev rmX8_mildLimit : Room := { frames := 7, cells := 1, slots := 6, locals := 124 }
theorem iX8_mildLimit_6 : ∀ w ∈ u_ws RX6 TX6 10, w ∈ wsX8_mildLimit := by decide +kernel
theorem iX8_mildLimit_8 : ∀ w ∈ u_ws RX8 TX8 6, w ∈ wsX8_mildLimit := by decide +kernel
set_option maxHeartbeats 400000 in
set_option maxRecDepth 100000 in
theorem kX8_mildLimit (l : Launch) (hls : l.stackTraces = false) {M : Mm} (hJ : CJ M 1) (x : Int32) : Cx l yX8_mildLimit wsX8_mildLimit rmX8_mildLimit (fun B => [.ref (B + 0), .int x]) M (fun _ v u => ∃ k, 1 ≤ k ∧ k ≤ 200 ∧ x = nI k ∧ (∀ y, oR 71 y → u y = M y) ∧ ∃ i, i ≤ 5 ∧ (∀ j, j < i → mlN M k (j + 1)) ∧ (i = 5 ∧ v = some (.int (-1)) ∨ i < 5 ∧ v = some (.int (nI (i + 1))) ∧ ∃ s, s ≤ k ∧ (s = k ∨ itF (mlS M (i + 1)) 71 s 71 5 ≠ mlS M (i + 1) 71 5) ∧ ¬ mlS M (i + 1) 71 5 < itF (mlS M (i + 1)) 71 s 71 5 ∧ (∀ j, j < s → itF (mlS M (i + 1)) 71 j 71 5 = mlS M (i + 1) 71 5))) (fun E u => E = xA ∧ ¬ (1 ≤ x ∧ x ≤ 200) ∧ u = M) := by
  refine Cx.ofI (own := RX8) hls (by decide +kernel) rfl rfl (fun B => Nat.le_of_ble_eq_true rfl) ?_
  intro pp ee ss mm aa bb me c9 DD ca B Tl AA QQ F K KT KN
  show G pp l ee rmX8_mildLimit ss mm aa bb me c9 QQ DD ca B Tl AA 3 0 0 M 0 [(0, .ref (B + 0)), (1, .int x)] []
  refine g_iload_n F dX8_mildLimit_0 rfl 1 rfl ?_
  refine g_iconst F (v := 1) dX8_mildLimit_1 (by decide) ?_
  refine g_sipush F (v := 200) dX8_mildLimit_2 (by decide +kernel) ?_
  refine g_callS F (kX8_isWithin l _ _ _) (va_cwS 3 F.1.2.2.2.2 gX8_mildLimit_X8_isWithin rfl rfl rfl (by decide +kernel) ⟨Nat.le_of_ble_eq_true rfl, Nat.le_of_ble_eq_true rfl⟩) rfl rfl rfl (Nat.le_of_ble_eq_true rfl) dX8_mildLimit_5 ⟨Nat.le_of_ble_eq_true rfl, Nat.le_of_ble_eq_true rfl⟩ (g_det ?_)
  refine x_callS F (kX8_demand l hls _) (va_cwS 1 F.1.2.2.2.2 gX8_mildLimit_X8_demand rfl rfl rfl (by decide +kernel) ⟨Nat.le_of_ble_eq_true rfl, Nat.le_of_ble_eq_true rfl⟩) rfl rfl rfl (Nat.le_of_ble_eq_true rfl) dX8_mildLimit_8 ⟨Nat.le_of_ble_eq_true rfl, Nat.le_of_ble_eq_true rfl⟩ (fun v9 u9 h9 => ?_) (fun E9 u9 x9 => KT E9 u9 _ _ _ _ (Nat.le_of_ble_eq_true rfl) (Nat.le_of_ble_eq_true rfl) ⟨x9.1, b2i_0 x9.2.1, x9.2.2⟩)
  obtain ⟨hd9, rfl, e6⟩ := h9
  obtain rfl := e6.symm
  replace hd9 := b2i_n0 hd9
  obtain ⟨k, hk1, hk2, rfl⟩ := of_rng (n := 200) (by decide) hd9
  refine g_iconst F (v := 1) dX8_mildLimit_11 (by decide) ?_
  refine g_istore_n F (lv2 := [(2, _), (0, _), (1, _)]) dX8_mildLimit_12 rfl (by decide) rfl ?_
  have LP : ∀ (ni i : Nat) (U : Mm), i + ni = 5 → ((∀ y, oR 71 y → U y = M y) ∧ (∀ j, j < i → mlN M k (j + 1))) → G pp l ee rmX8_mildLimit ss mm aa bb me c9 QQ DD ca B Tl AA 3 1 6 (U) 13 [(2, .int (nI (i + 1))), (0, .ref (B + 0)), (1, .int (nI k))] [] := by
    intro ni
    induction ni with
    | zero =>
      intro i U hni hyi
      refine g_iload_n F dX8_mildLimit_13 rfl 0 rfl ?_
      refine g_iconst F (v := 5) dX8_mildLimit_14 (by decide) ?_
      refine g_icmpN_gt F 56 dX8_mildLimit_15 (by decide) ((i + 1)) (5) rfl rfl (by omega) (by omega) (fun hci => ?_) (fun hci => ?_)
      · obtain rfl : i = 5 := by omega
        refine g_iconst F (v := -1) dX8_mildLimit_56 (by decide) ?_
        refine g_widen (k := rmX8_mildLimit.cells) (n := rmX8_mildLimit.slots) (Nat.le_of_ble_eq_true rfl) (Nat.le_of_ble_eq_true rfl) ?_
        exact K _ _ _ _ dX8_mildLimit_57 rfl ⟨k, hk1, hk2, rfl, hyi.1, 5, by omega, hyi.2, Or.inl ⟨rfl, rfl⟩⟩
      · exact absurd hci (by omega)
    | succ ni ihi =>
      intro i U hni hyi
      refine g_iload_n F dX8_mildLimit_13 rfl 0 rfl ?_
      refine g_iconst F (v := 5) dX8_mildLimit_14 (by decide) ?_
      refine g_icmpN_gt F 56 dX8_mildLimit_15 (by decide) ((i + 1)) (5) rfl rfl (by omega) (by omega) (fun hci => ?_) (fun hci => ?_)
      · exact absurd hci (by omega)
      · refine g_aload_n F dX8_mildLimit_18 rfl 1 rfl ?_
        refine gg8_sketch F iX8_mildLimit_8 r0 (by decide +kernel) dX8_mildLimit_19 ?_
        refine g_aload_n F dX8_mildLimit_22 rfl 1 rfl ?_
        refine gg8_now F iX8_mildLimit_8 r0 (by decide +kernel) dX8_mildLimit_23 ?_
        refine g_callV F (kX6_copyFrom l r71 r1 (by omega)) (cwV 1 F.1.2.2.2.2 gX8_mildLimit_X6_copyFrom rfl rfl rfl (by decide +kernel) ⟨Nat.le_of_ble_eq_true rfl, Nat.le_of_ble_eq_true rfl⟩) r71 (by decide) rfl rfl rfl rfl (Nat.le_of_ble_eq_true rfl) dX8_mildLimit_26 ⟨Nat.le_of_ble_eq_true rfl, Nat.le_of_ble_eq_true rfl⟩ (g_det ?_)
        refine g_mem (cpR_eq hyi.1) ?_
        refine g_aload_n F dX8_mildLimit_29 rfl 1 rfl ?_
        refine gg8_sketch F iX8_mildLimit_8 r0 (by decide +kernel) dX8_mildLimit_30 ?_
        refine g_iload_n F dX8_mildLimit_33 rfl 0 rfl ?_
        refine gp6_limit F iX8_mildLimit_6 r71 (by decide +kernel) dX8_mildLimit_34 ?_
        refine g_aload_n F dX8_mildLimit_37 rfl 1 rfl ?_
        refine gg8_sketch F iX8_mildLimit_8 r0 (by decide +kernel) dX8_mildLimit_38 ?_
        refine g_iload_n F dX8_mildLimit_41 rfl 2 rfl ?_
        refine g_callV F (kX6_getsNoticeIn l r71 (M := mlS M (i + 1)) (k := k) (by omega) (mlS_CJ (by omega) hJ)) (cwV 1 F.1.2.2.2.2 gX8_mildLimit_X6_getsNoticeIn rfl rfl rfl (by decide +kernel) ⟨Nat.le_of_ble_eq_true rfl, Nat.le_of_ble_eq_true rfl⟩) r71 (by decide) rfl rfl rfl rfl (Nat.le_of_ble_eq_true rfl) dX8_mildLimit_42 ⟨Nat.le_of_ble_eq_true rfl, Nat.le_of_ble_eq_true rfl⟩ (fun v9 u9 h9 => ?_)
        obtain ⟨s, hs, e5, hs1, hs2, rfl⟩ := h9
        obtain rfl := e5.symm
        refine g_ifB_ne F 50 dX8_mildLimit_45 (by decide) (fun h1 => ?_) (fun h1 => ?_)
        · refine g_iinc F (lv2 := [(2, _), (0, _), (1, _)]) dX8_mildLimit_50 0 rfl (nI_1 _) (by decide) rfl ?_
          refine g_goto F 13 dX8_mildLimit_53 (by decide) ?_
          refine g_lv (lv2 := [(2, _), (0, _), (1, _)]) [0, 1, 2] rfl ?_
          exact g_is rfl rfl (ihi (i + 1) _ (by omega) ⟨fun y h => (itF_o h s).trans (mlS_o h), fun j hj => by by_cases h7 : j = i; (rw [h7]; exact ⟨s, hs, h1, hs1⟩); exact hyi.2 j (by omega)⟩)
        · refine g_iload_n F dX8_mildLimit_48 rfl 0 rfl ?_
          refine g_widen (k := rmX8_mildLimit.cells) (n := rmX8_mildLimit.slots) (Nat.le_of_ble_eq_true rfl) (Nat.le_of_ble_eq_true rfl) ?_
          exact K _ _ _ _ dX8_mildLimit_49 rfl ⟨k, hk1, hk2, rfl, fun y h => (itF_o h s).trans (mlS_o h), i, by omega, hyi.2, Or.inr ⟨by omega, rfl, s, hs, hs2, h1, hs1⟩⟩
  refine g_lv (lv2 := [(2, _), (0, _), (1, _)]) [0, 1, 2] rfl ?_
  exact g_is rfl rfl (LP (5 - 0) (0) _ (by omega) ⟨fun y h => rfl, fun j h => absurd h (by omega)⟩)
