/-- the ridge at r is at tick t, its patience is p -/
def CI (M : Mm) (r t p : Nat) : Prop := M r 9 = nI t ∧ M r 7 = nI p ∧ -1 < M r 6 ∧ ∃ n, n ≤ 20 ∧ M r 5 = nI n
theorem CI.row {M M2 : Mm} {r t p : Nat} (h : CI M r t p) (e : M2 r = M r) : CI M2 r t p := by unfold CI; rw [e]; exact h
/-- an observer reads -/
def obsF (M : Mm) (r t : Nat) (gr : Int32) (k : Nat) : Mm :=
  if 0 ≤ M (obP r k) 0 ∧ M (obP r k) 0 ≤ 7 then
    va_up (nrC M (chP r (M (obP r k) 0).toNatClampNeg) t (rdC (M (obP r k)) (shC M (chP r (M (obP r k) 0).toNatClampNeg) (nI t)) gr) (shC M (chP r (M (obP r k) 0).toNatClampNeg) (nI t))) (obP r k)
      (ctC (nrC M (chP r (M (obP r k) 0).toNatClampNeg) t (rdC (M (obP r k)) (shC M (chP r (M (obP r k) 0).toNatClampNeg) (nI t)) gr) (shC M (chP r (M (obP r k) 0).toNatClampNeg) (nI t)) (obP r k)) (rdC (M (obP r k)) (shC M (chP r (M (obP r k) 0).toNatClampNeg) (nI t)) gr) (shC M (chP r (M (obP r k) 0).toNatClampNeg) (nI t)))
  else M
theorem obsF_no {M : Mm} {r t k : Nat} {gr : Int32} (h : ¬ (0 ≤ M (obP r k) 0 ∧ M (obP r k) 0 ≤ 7)) : obsF M r t gr k = M := if_neg h
theorem obsF_yes {M : Mm} {r t k c : Nat} {gr : Int32} (hc8 : c < 8) (hc : M (obP r k) 0 = nI c) : obsF M r t gr k = va_up (nrC M (chP r c) t (rdC (M (obP r k)) (shC M (chP r c) (nI t)) gr) (shC M (chP r c) (nI t))) (obP r k) (ctC (nrC M (chP r c) t (rdC (M (obP r k)) (shC M (chP r c) (nI t)) gr) (shC M (chP r c) (nI t)) (obP r k)) (rdC (M (obP r k)) (shC M (chP r c) (nI t)) gr) (shC M (chP r c) (nI t))) := by
  unfold obsF
  rw [if_pos (by rw [hc]; exact in7 hc8), hc, nI_clamp (by omega)]
theorem nrC_ne {M : Mm} {r t q : Nat} {x y : Int32} (h1 : q ≠ r + 1 + 1) (h2 : q ≠ r + 3 + 1) : nrC M r t x y q = M q := by unfold nrC; rw [va_up_ne _ _ h2, va_up_ne _ _ h1]
theorem obsF_r {M : Mm} {r t k : Nat} {gr : Int32} : obsF M r t gr k r = M r := by
  unfold obsF
  split
  · rw [va_up_ne _ _ (show r ≠ obP r k by unfold obP; omega), nrC_ne (by unfold chP; omega) (by unfold chP; omega)]
  · rfl
def trF (M : Mm) (r t : Nat) (gr : Int32) : Nat → Mm
  | 0 => M
  | k + 1 => obsF (trF M r t gr k) r t gr k
theorem trF_r {M : Mm} {r t : Nat} {gr : Int32} : ∀ k, trF M r t gr k r = M r
  | 0 => rfl
  | k + 1 => obsF_r.trans (trF_r k)
/-- all observers read -/
def trG (M : Mm) (r t : Nat) : Mm := trF (va_up M (r + 5 + 1) (upd (M (r + 5 + 1)) t (gyF (M (r + 4)) (nI t / 4)))) r t (gyF (M (r + 4)) (nI t / 4)) 3
theorem trG_r {M : Mm} {r t : Nat} : trG M r t r = M r := (trF_r 3).trans (va_up_ne _ _ (by omega))

abbrev rmX6_takeReadings : Room := { frames := 2, cells := 0, slots := 0, locals := 45 }
theorem iX6_takeReadings_4 : ∀ w ∈ u_ws RX4 TX4 5, w ∈ wsX6_takeReadings := by decide +kernel
theorem iX6_takeReadings_6 : ∀ w ∈ u_ws RX6 TX6 10, w ∈ wsX6_takeReadings := by decide +kernel
set_option maxHeartbeats 4000000 in
set_option maxRecDepth 100000 in
theorem kX6_takeReadings (l : Launch) {M : Mm} {r t : Nat} (hr : isR 6 r) (ht : t < 96) (h9 : M r 9 = nI t) : Ct l yX6_takeReadings wsX6_takeReadings rmX6_takeReadings (fun B => [.ref (B + r)]) M (fun _ v u => v = none ∧ u = trG M r t) := by
  refine Ct.ofV (own := RX6) (by decide +kernel) rfl rfl (fun B => Nat.le_of_ble_eq_true rfl) ?_
  intro pp ee ss mm aa bb me c9 DD ca B Tl AA QQ F K
  show G pp l ee rmX6_takeReadings ss mm aa bb me c9 QQ DD ca B Tl AA 9 0 0 M 0 [(0, .ref (B + r))] []
  refine g_aload_n F dX6_takeReadings_0 rfl 0 rfl ?_
  refine g_aload_n F dX6_takeReadings_1 rfl 0 rfl ?_
  refine gg6_tick F iX6_takeReadings_6 hr (by decide +kernel) dX6_takeReadings_2 ?_
  refine g_top h9 ?_
  refine g_callV F (kX6_greyAtTick l hr _) (cwV 1 F.1.2.2.2.2 gX6_takeReadings_X6_greyAtTick rfl rfl rfl (by decide +kernel) ⟨Nat.le_of_ble_eq_true rfl, Nat.le_of_ble_eq_true rfl⟩) hr (by decide) rfl rfl rfl rfl (Nat.le_of_ble_eq_true rfl) dX6_takeReadings_5 ⟨Nat.le_of_ble_eq_true rfl, Nat.le_of_ble_eq_true rfl⟩ (g_det ?_)
  refine g_istore_n F (lv2 := [(1, _), (0, _)]) dX6_takeReadings_8 rfl (by decide) rfl ?_
  refine g_aload_n F dX6_takeReadings_9 rfl 1 rfl ?_
  refine gg6_greysThen F iX6_takeReadings_6 hr (by decide +kernel) dX6_takeReadings_10 ?_
  refine g_aload_n F dX6_takeReadings_13 rfl 1 rfl ?_
  refine gg6_tick F iX6_takeReadings_6 hr (by decide +kernel) dX6_takeReadings_14 ?_
  refine g_top h9 ?_
  refine g_iload_n F dX6_takeReadings_17 rfl 0 rfl ?_
  refine g_callV F (kX1_note l (sb6 hr).2.2.2.2 _ _) (cwV 2 F.1.2.2.2.2 gX6_takeReadings_X1_note rfl rfl rfl (by decide +kernel) ⟨Nat.le_of_ble_eq_true rfl, Nat.le_of_ble_eq_true rfl⟩) (sb6 hr).2.2.2.2 (by decide) rfl rfl rfl rfl (Nat.le_of_ble_eq_true rfl) dX6_takeReadings_18 ⟨Nat.le_of_ble_eq_true rfl, Nat.le_of_ble_eq_true rfl⟩ (g_det ?_)
  refine g_mem (noteF_n _ _ _ ht) ?_
  refine g_aload_n F dX6_takeReadings_21 rfl 1 rfl ?_
  refine gg6_observers F iX6_takeReadings_6 hr (by decide +kernel) dX6_takeReadings_22 ?_
  refine g_astore_n F (lv2 := [(2, _), (1, _), (0, _)]) dX6_takeReadings_25 rfl (by decide) rfl ?_
  refine g_aload_n F dX6_takeReadings_26 rfl 0 rfl ?_
  refine g_alen14 F (sb6 hr).2.1 dX6_takeReadings_27 ?_
  refine g_istore_n F (lv2 := [(3, _), (2, _), (1, _), (0, _)]) dX6_takeReadings_28 rfl (by decide) rfl ?_
  refine g_iconst F (v := 0) dX6_takeReadings_29 (by decide) ?_
  refine g_istore F (lv2 := [(4, _), (3, _), (2, _), (1, _), (0, _)]) dX6_takeReadings_30 (by decide) rfl ?_
  have LP : ∀ (ni i : Nat), i + ni = 3 → G pp l ee rmX6_takeReadings ss mm aa bb me c9 QQ DD ca B Tl AA 9 0 0 (trF (va_up M (r + 5 + 1) (upd (M (r + 5 + 1)) t (gyF (M (r + 4)) (nI t / 4)))) r t (gyF (M (r + 4)) (nI t / 4)) i) 32 [(4, .int (nI i)), (0, .ref (B + r)), (1, .int (gyF (M (r + 4)) (nI t / 4))), (2, .ref (B + (r + 2))), (3, .int (nI 3))] [] := by
    intro ni
    induction ni with
    | zero =>
      intro i hni
      refine g_iload F dX6_takeReadings_32 0 rfl ?_
      refine g_iload_n F dX6_takeReadings_34 rfl 4 rfl ?_
      refine g_icmpN_ge F 119 dX6_takeReadings_35 (by decide) (i) (3) rfl rfl (by omega) (by omega) (fun hci => ?_) (fun hci => ?_)
      · obtain rfl : i = 3 := by omega
        exact K _ _ _ dX6_takeReadings_119 ⟨rfl, rfl⟩
      · exact absurd hci (by omega)
    | succ ni ihi =>
      intro i hni
      refine g_iload F dX6_takeReadings_32 0 rfl ?_
      refine g_iload_n F dX6_takeReadings_34 rfl 4 rfl ?_
      refine g_icmpN_ge F 119 dX6_takeReadings_35 (by decide) (i) (3) rfl rfl (by omega) (by omega) (fun hci => ?_) (fun hci => ?_)
      · exact absurd hci (by omega)
      · refine g_aload_n F dX6_takeReadings_38 rfl 3 rfl ?_
        refine g_iload F dX6_takeReadings_39 0 rfl ?_
        refine g_aaload14 F (sb6 hr).2.1 (i) rfl (by omega) dX6_takeReadings_41 ?_
        refine g_astore F (lv2 := [(5, _), (4, _), (0, _), (1, _), (2, _), (3, _)]) dX6_takeReadings_42 (by decide) rfl ?_
        refine g_aload F dX6_takeReadings_44 0 rfl ?_
        refine gg4_watched F iX6_takeReadings_4 (el14 (sb6 hr).2.1 (by omega)) (by decide +kernel) dX6_takeReadings_46 ?_
        refine g_iconst F (v := 0) dX6_takeReadings_49 (by decide) ?_
        refine g_bipush F (v := 7) dX6_takeReadings_50 (by decide +kernel) ?_
        refine g_callSN F (kX8_isWithin l _ _ _) ⟨va_cnB 3 F.1.2.2.2.2 gX6_takeReadings_X8_isWithin_n109 rfl rfl rfl (F.2.2.2.1.1 (RX6, 109, yX8_isWithin, "ShadeCards") (by decide +kernel)) (F.1.2.2.2.2 (.initialized RX8) (by decide +kernel)) (by decide +kernel) ⟨Nat.le_of_ble_eq_true rfl, Nat.le_of_ble_eq_true rfl⟩, F.1.2.2.2.2 (.static yX8_isWithin) (by decide +kernel), trivial⟩ rfl rfl rfl (Nat.le_of_ble_eq_true rfl) dX6_takeReadings_52 ⟨Nat.le_of_ble_eq_true rfl, Nat.le_of_ble_eq_true rfl⟩ (g_det ?_)
        refine g_ifB_eq F 113 dX6_takeReadings_55 (by decide) (fun h1 => ?_) (fun h1 => ?_)
        · refine g_iinc F (lv2 := [(4, _), (5, _), (0, _), (1, _), (2, _), (3, _)]) dX6_takeReadings_113 1 rfl (nI_1 _) (by decide) rfl ?_
          refine g_goto F 32 dX6_takeReadings_116 (by decide) ?_
          refine g_lv (lv2 := [(4, _), (0, _), (1, _), (2, _), (3, _)]) [0, 2, 3, 4, 5] rfl ?_
          exact g_is (by first | exact (obsF_no h1).symm | exact (obsF_yes hc8 hc).symm) rfl (ihi (i + 1) (by omega))
        · obtain ⟨c, hc8, hc⟩ := of7 h1
          refine g_aload_n F dX6_takeReadings_58 rfl 2 rfl ?_
          refine gg6_chimneys F iX6_takeReadings_6 hr (by decide +kernel) dX6_takeReadings_59 ?_
          refine g_aload F dX6_takeReadings_62 0 rfl ?_
          refine gg4_watched F iX6_takeReadings_4 (el14 (sb6 hr).2.1 (by omega)) (by decide +kernel) dX6_takeReadings_64 ?_
          refine g_top hc ?_
          refine g_aaload12 F (sb6 hr).1 (c) rfl (by omega) dX6_takeReadings_67 ?_
          refine g_astore F (lv2 := [(6, _), (5, _), (4, _), (0, _), (1, _), (2, _), (3, _)]) dX6_takeReadings_68 (by decide) rfl ?_
          refine g_aload F dX6_takeReadings_70 0 rfl ?_
          refine g_aload_n F dX6_takeReadings_72 rfl 3 rfl ?_
          refine gg6_tick F iX6_takeReadings_6 hr (by decide +kernel) dX6_takeReadings_73 ?_
          refine g_top (y := nI t) (by rw [trF_r, va_up_ne _ _ (show r ≠ r + 5 + 1 by omega)]; exact h9) ?_
          refine g_callV F (kX0_shadeAt l (el12 (sb6 hr).1 (by omega)) _) (cwV 1 F.1.2.2.2.2 gX6_takeReadings_X0_shadeAt rfl rfl rfl (by decide +kernel) ⟨Nat.le_of_ble_eq_true rfl, Nat.le_of_ble_eq_true rfl⟩) (el12 (sb6 hr).1 (by omega)) (by decide) rfl rfl rfl rfl (Nat.le_of_ble_eq_true rfl) dX6_takeReadings_76 ⟨Nat.le_of_ble_eq_true rfl, Nat.le_of_ble_eq_true rfl⟩ (g_det ?_)
          refine g_istore F (lv2 := [(7, _), (6, _), (5, _), (4, _), (0, _), (1, _), (2, _), (3, _)]) dX6_takeReadings_79 (by decide) rfl ?_
          refine g_aload F dX6_takeReadings_81 2 rfl ?_
          refine g_iload F dX6_takeReadings_83 0 rfl ?_
          refine g_iload_n F dX6_takeReadings_85 rfl 5 rfl ?_
          refine g_callV F (kX4_readingFor l (el14 (sb6 hr).2.1 (by omega)) _ _) (cwV 2 F.1.2.2.2.2 gX6_takeReadings_X4_readingFor rfl rfl rfl (by decide +kernel) ⟨Nat.le_of_ble_eq_true rfl, Nat.le_of_ble_eq_true rfl⟩) (el14 (sb6 hr).2.1 (by omega)) (by decide) rfl rfl rfl rfl (Nat.le_of_ble_eq_true rfl) dX6_takeReadings_86 ⟨Nat.le_of_ble_eq_true rfl, Nat.le_of_ble_eq_true rfl⟩ (g_det ?_)
          refine g_istore F (lv2 := [(8, _), (7, _), (6, _), (5, _), (4, _), (0, _), (1, _), (2, _), (3, _)]) dX6_takeReadings_89 (by decide) rfl ?_
          refine g_aload F dX6_takeReadings_91 2 rfl ?_
          refine g_aload_n F dX6_takeReadings_93 rfl 5 rfl ?_
          refine gg6_tick F iX6_takeReadings_6 hr (by decide +kernel) dX6_takeReadings_94 ?_
          refine g_top (y := nI t) (by rw [trF_r, va_up_ne _ _ (show r ≠ r + 5 + 1 by omega)]; exact h9) ?_
          refine g_iload F dX6_takeReadings_97 0 rfl ?_
          refine g_iload F dX6_takeReadings_99 1 rfl ?_
          refine g_callV F (kX0_noteReading l (el12 (sb6 hr).1 (by omega)) (t := t) (by omega) _ _) (cwV 3 F.1.2.2.2.2 gX6_takeReadings_X0_noteReading rfl rfl rfl (by decide +kernel) ⟨Nat.le_of_ble_eq_true rfl, Nat.le_of_ble_eq_true rfl⟩) (el12 (sb6 hr).1 (by omega)) (by decide) rfl rfl rfl rfl (Nat.le_of_ble_eq_true rfl) dX6_takeReadings_101 ⟨Nat.le_of_ble_eq_true rfl, Nat.le_of_ble_eq_true rfl⟩ (g_det ?_)
          refine g_aload F dX6_takeReadings_104 3 rfl ?_
          refine g_iload F dX6_takeReadings_106 0 rfl ?_
          refine g_iload F dX6_takeReadings_108 1 rfl ?_
          refine g_callV F (kX4_countReading l (el14 (sb6 hr).2.1 (by omega)) _ _) (cwV 2 F.1.2.2.2.2 gX6_takeReadings_X4_countReading rfl rfl rfl (by decide +kernel) ⟨Nat.le_of_ble_eq_true rfl, Nat.le_of_ble_eq_true rfl⟩) (el14 (sb6 hr).2.1 (by omega)) (by decide) rfl rfl rfl rfl (Nat.le_of_ble_eq_true rfl) dX6_takeReadings_110 ⟨Nat.le_of_ble_eq_true rfl, Nat.le_of_ble_eq_true rfl⟩ (g_det ?_)
          refine g_iinc F (lv2 := [(4, _), (8, _), (7, _), (6, _), (5, _), (0, _), (1, _), (2, _), (3, _)]) dX6_takeReadings_113 4 rfl (nI_1 _) (by decide) rfl ?_
          refine g_goto F 32 dX6_takeReadings_116 (by decide) ?_
          refine g_lv (lv2 := [(4, _), (0, _), (1, _), (2, _), (3, _)]) [0, 5, 6, 7, 8] rfl ?_
          exact g_is (by first | exact (obsF_no h1).symm | exact (obsF_yes hc8 hc).symm) rfl (ihi (i + 1) (by omega))
  refine g_lv (lv2 := [(4, _), (0, _), (1, _), (2, _), (3, _)]) [0, 4, 3, 2, 1] rfl ?_
  exact g_is rfl rfl (LP (3 - 0) (0) (by omega))

def tiO (M : Mm) (r : Nat) : Nat → Mm
  | 0 => M
  | k + 1 => va_up (tiO M r k) (obP r k) (tiC (tiO M r k (obP r k)))
theorem tiO_r {M : Mm} {r : Nat} : ∀ k, tiO M r k r = M r
  | 0 => rfl
  | k + 1 => (va_up_ne _ _ (show r ≠ obP r k by unfold obP; omega)).trans (tiO_r k)
/-- a chimney gets a notice, if it is due -/
def gnS (M : Mm) (r t p c : Nat) : Mm :=
  if upR (M (chP r c + 1 + 1)) (M r 6) (t + 1) = p ∧ 0 ≤ M r 5 ∧ M r 5 ≤ 19 then
    va_up (fillF M r (noP r (M r 5).toNatClampNeg) c (M r 5).toNatClampNeg t p) r (upd (fillF M r (noP r (M r 5).toNatClampNeg) c (M r 5).toNatClampNeg t p r) 5 (fillF M r (noP r (M r 5).toNatClampNeg) c (M r 5).toNatClampNeg t p r 5 + 1))
  else M
theorem gnS_no1 {M : Mm} {r t p c : Nat} (h : upR (M (chP r c + 1 + 1)) (M r 6) (t + 1) ≠ p) : gnS M r t p c = M := if_neg (fun z => h z.1)
theorem gnS_no2 {M : Mm} {r t p c : Nat} (h : ¬ (0 ≤ M r 5 ∧ M r 5 ≤ 19)) : gnS M r t p c = M := if_neg (fun z => h z.2)
theorem in19 {n : Nat} (h : n < 20) : (0 : Int32) ≤ nI n ∧ nI n ≤ 19 := ⟨nI_pos' (by omega), (nI_leI (a := n) (b := 19) (by omega) (by omega)).mpr (by omega)⟩
theorem of19 {n : Nat} (hn : n ≤ 20) (h : (0 : Int32) ≤ nI n ∧ nI n ≤ 19) : n < 20 := by
  have := (nI_leI (a := n) (b := 19) (by omega) (by omega)).mp h.2
  omega
theorem gnS_yes {M : Mm} {r t p c n : Nat} (h : upR (M (chP r c + 1 + 1)) (M r 6) (t + 1) = p) (hn : M r 5 = nI n) (hn2 : n < 20) : gnS M r t p c = va_up (fillF M r (noP r n) c n t p) r (upd (fillF M r (noP r n) c n t p r) 5 (fillF M r (noP r n) c n t p r 5 + 1)) := by
  unfold gnS
  rw [if_pos ⟨h, by rw [hn]; exact in19 hn2⟩, hn, nI_clamp (by omega)]
theorem fillF_ne {M : Mm} {r q c n t p a : Nat} (h1 : a ≠ q) (h2 : a ≠ chP r c) : fillF M r q c n t p a = M a := by unfold fillF; rw [va_up_ne _ _ h2, va_up_ne _ _ h1]
theorem gnS_CI {M : Mm} {r t p c : Nat} (h : CI M r t p) : CI (gnS M r t p c) r t p := by
  obtain ⟨h9, h7, h6, n, hn, h5⟩ := id h
  by_cases hU : upR (M (chP r c + 1 + 1)) (M r 6) (t + 1) = p
  · by_cases hc : 0 ≤ M r 5 ∧ M r 5 ≤ 19
    · have hn2 : n < 20 := of19 hn (by rw [h5] at hc; exact hc)
      rw [gnS_yes hU h5 hn2]
      unfold CI
      rw [va_up_self, fillF_ne (show r ≠ noP r n by unfold noP; omega) (show r ≠ chP r c by unfold chP; omega)]
      exact ⟨h9, h7, h6, n + 1, by omega, by rw [pk_us, h5]; exact nI_1 n⟩
    · rw [gnS_no2 hc]; exact h
  · rw [gnS_no1 hU]; exact h
def gnF (M : Mm) (r t p : Nat) : Nat → Mm
  | 0 => M
  | c + 1 => gnS (gnF M r t p c) r t p c
theorem gnF_CI {M : Mm} {r t p : Nat} (h : CI M r t p) : ∀ c, CI (gnF M r t p c) r t p
  | 0 => h
  | c + 1 => gnS_CI (gnF_CI h c)
theorem min_p1 {p U : Nat} : min (p + 1) U = p ↔ U = p := by rw [Nat.min_def]; split <;> omega

abbrev rmX6_giveNotices : Room := { frames := 2, cells := 0, slots := 0, locals := 47 }
theorem iX6_giveNotices_0 : ∀ w ∈ u_ws RX0 TX0 8, w ∈ wsX6_giveNotices := by decide +kernel
theorem iX6_giveNotices_6 : ∀ w ∈ u_ws RX6 TX6 10, w ∈ wsX6_giveNotices := by decide +kernel
set_option maxHeartbeats 4000000 in
set_option maxRecDepth 100000 in
theorem kX6_giveNotices (l : Launch) {M : Mm} {r t p : Nat} (hr : isR 6 r) (ht : t < 96) (hp8 : p ≤ 8) (hC : CI M r t p) : Ct l yX6_giveNotices wsX6_giveNotices rmX6_giveNotices (fun B => [.ref (B + r)]) M (fun _ v u => v = none ∧ u = gnF M r t p 8) := by
  refine Ct.ofV (own := RX6) (by decide +kernel) rfl rfl (fun B => Nat.le_of_ble_eq_true rfl) ?_
  intro pp ee ss mm aa bb me c9 DD ca B Tl AA QQ F K
  show G pp l ee rmX6_giveNotices ss mm aa bb me c9 QQ DD ca B Tl AA 3 0 0 M 0 [(0, .ref (B + r))] []
  refine g_iconst F (v := 0) dX6_giveNotices_0 (by decide) ?_
  refine g_istore_n F (lv2 := [(1, _), (0, _)]) dX6_giveNotices_1 rfl (by decide) rfl ?_
  have LP : ∀ (ni i : Nat), i + ni = 8 → G pp l ee rmX6_giveNotices ss mm aa bb me c9 QQ DD ca B Tl AA 3 0 0 (gnF M r t p i) 2 [(1, .int (nI i)), (0, .ref (B + r))] [] := by
    intro ni
    induction ni with
    | zero =>
      intro i hni
      refine g_iload_n F dX6_giveNotices_2 rfl 0 rfl ?_
      refine g_bipush F (v := 8) dX6_giveNotices_3 (by decide +kernel) ?_
      refine g_icmpN_ge F 92 dX6_giveNotices_5 (by decide) (i) (8) rfl rfl (by omega) (by omega) (fun hci => ?_) (fun hci => ?_)
      · obtain rfl : i = 8 := by omega
        exact K _ _ _ dX6_giveNotices_92 ⟨rfl, rfl⟩
      · exact absurd hci (by omega)
    | succ ni ihi =>
      intro i hni
      obtain ⟨h9, h7, h6, n, hn20, hn⟩ := gnF_CI hC i
      refine g_iload_n F dX6_giveNotices_2 rfl 0 rfl ?_
      refine g_bipush F (v := 8) dX6_giveNotices_3 (by decide +kernel) ?_
      refine g_icmpN_ge F 92 dX6_giveNotices_5 (by decide) (i) (8) rfl rfl (by omega) (by omega) (fun hci => ?_) (fun hci => ?_)
      · exact absurd hci (by omega)
      · refine g_aload_n F dX6_giveNotices_8 rfl 1 rfl ?_
        refine gg6_chimneys F iX6_giveNotices_6 hr (by decide +kernel) dX6_giveNotices_9 ?_
        refine g_iload_n F dX6_giveNotices_12 rfl 0 rfl ?_
        refine g_aaload12 F (sb6 hr).1 (i) rfl (by omega) dX6_giveNotices_13 ?_
        refine gg0_readings F iX6_giveNotices_0 (el12 (sb6 hr).1 (by omega)) (by decide +kernel) dX6_giveNotices_14 ?_
        refine g_aload_n F dX6_giveNotices_17 rfl 1 rfl ?_
        refine gg6_tick F iX6_giveNotices_6 hr (by decide +kernel) dX6_giveNotices_18 ?_
        refine g_top h9 ?_
        refine g_aload_n F dX6_giveNotices_21 rfl 1 rfl ?_
        refine gg6_limit F iX6_giveNotices_6 hr (by decide +kernel) dX6_giveNotices_22 ?_
        refine g_aload_n F dX6_giveNotices_25 rfl 1 rfl ?_
        refine gg6_patience F iX6_giveNotices_6 hr (by decide +kernel) dX6_giveNotices_26 ?_
        refine g_top h7 ?_
        refine g_iconst F (v := 1) dX6_giveNotices_29 (by decide) ?_
        refine g_iadd F dX6_giveNotices_30 ?_
        refine g_top (nI_add (p) (1)) ?_
        refine g_callV F (kX1_rowUpTo l (sb0 (el12 (sb6 hr).1 (by omega))).1 t (p + 1) ht (by omega) _ h6) (cwV 3 F.1.2.2.2.2 gX6_giveNotices_X1_rowUpTo rfl rfl rfl (by decide +kernel) ⟨Nat.le_of_ble_eq_true rfl, Nat.le_of_ble_eq_true rfl⟩) (sb0 (el12 (sb6 hr).1 (by omega))).1 (by decide) rfl rfl rfl rfl (Nat.le_of_ble_eq_true rfl) dX6_giveNotices_31 ⟨Nat.le_of_ble_eq_true rfl, Nat.le_of_ble_eq_true rfl⟩ (g_det ?_)
        have hmn : min (p + 1) (upR (gnF M r t p i (chP r i + 1 + 1)) (gnF M r t p i r 6) (t + 1)) ≤ p + 1 := Nat.min_le_left _ _
        refine g_istore_n F (lv2 := [(2, _), (1, _), (0, _)]) dX6_giveNotices_34 rfl (by decide) rfl ?_
        refine g_iload_n F dX6_giveNotices_35 rfl 0 rfl ?_
        refine g_aload_n F dX6_giveNotices_36 rfl 2 rfl ?_
        refine gg6_patience F iX6_giveNotices_6 hr (by decide +kernel) dX6_giveNotices_37 ?_
        refine g_top h7 ?_
        refine g_icmpN_ne F 86 dX6_giveNotices_40 (by decide) ((min (p + 1) (upR (gnF M r t p i (chP r i + 1 + 1)) (gnF M r t p i r 6) (t + 1)))) (p) rfl rfl (by omega) (by omega) (fun h1 => ?_) (fun h1 => ?_)
        · refine g_iinc F (lv2 := [(1, _), (2, _), (0, _)]) dX6_giveNotices_86 1 rfl (nI_1 _) (by decide) rfl ?_
          refine g_goto F 2 dX6_giveNotices_89 (by decide) ?_
          refine g_lv (lv2 := [(1, _), (0, _)]) [0, 2] rfl ?_
          exact g_is (by first | exact (gnS_no1 (fun z => h1 (min_p1.mpr z))).symm | exact (gnS_no2 (fun z => h2 (by rw [hn] at z; exact z))).symm | exact (gnS_yes (min_p1.mp h1) hn hn2).symm) rfl (ihi (i + 1) (by omega))
        · refine g_aload_n F dX6_giveNotices_43 rfl 2 rfl ?_
          refine gg6_noticeCount F iX6_giveNotices_6 hr (by decide +kernel) dX6_giveNotices_44 ?_
          refine g_top hn ?_
          refine g_iconst F (v := 0) dX6_giveNotices_47 (by decide) ?_
          refine g_bipush F (v := 19) dX6_giveNotices_48 (by decide +kernel) ?_
          refine g_callSN F (kX8_isWithin l _ _ _) ⟨va_cnB 3 F.1.2.2.2.2 gX6_giveNotices_X8_isWithin_n109 rfl rfl rfl (F.2.2.2.1.1 (RX6, 109, yX8_isWithin, "ShadeCards") (by decide +kernel)) (F.1.2.2.2.2 (.initialized RX8) (by decide +kernel)) (by decide +kernel) ⟨Nat.le_of_ble_eq_true rfl, Nat.le_of_ble_eq_true rfl⟩, F.1.2.2.2.2 (.static yX8_isWithin) (by decide +kernel), trivial⟩ rfl rfl rfl (Nat.le_of_ble_eq_true rfl) dX6_giveNotices_50 ⟨Nat.le_of_ble_eq_true rfl, Nat.le_of_ble_eq_true rfl⟩ (g_det ?_)
          refine g_ifB_eq F 86 dX6_giveNotices_53 (by decide) (fun h2 => ?_) (fun h2 => ?_)
          · refine g_iinc F (lv2 := [(1, _), (2, _), (0, _)]) dX6_giveNotices_86 1 rfl (nI_1 _) (by decide) rfl ?_
            refine g_goto F 2 dX6_giveNotices_89 (by decide) ?_
            refine g_lv (lv2 := [(1, _), (0, _)]) [0, 2] rfl ?_
            exact g_is (by first | exact (gnS_no1 (fun z => h1 (min_p1.mpr z))).symm | exact (gnS_no2 (fun z => h2 (by rw [hn] at z; exact z))).symm | exact (gnS_yes (min_p1.mp h1) hn hn2).symm) rfl (ihi (i + 1) (by omega))
          · have hn2 := of19 hn20 h2
            refine g_aload_n F dX6_giveNotices_56 rfl 2 rfl ?_
            refine g_aload_n F dX6_giveNotices_57 rfl 2 rfl ?_
            refine gg6_notes F iX6_giveNotices_6 hr (by decide +kernel) dX6_giveNotices_58 ?_
            refine g_aload_n F dX6_giveNotices_61 rfl 2 rfl ?_
            refine gg6_noticeCount F iX6_giveNotices_6 hr (by decide +kernel) dX6_giveNotices_62 ?_
            refine g_top hn ?_
            refine g_aaload13 F (sb6 hr).2.2.1 (n) rfl (by omega) dX6_giveNotices_65 ?_
            refine g_iload_n F dX6_giveNotices_66 rfl 1 rfl ?_
            refine g_aload_n F dX6_giveNotices_67 rfl 2 rfl ?_
            refine gg6_chimneys F iX6_giveNotices_6 hr (by decide +kernel) dX6_giveNotices_68 ?_
            refine g_iload_n F dX6_giveNotices_71 rfl 1 rfl ?_
            refine g_aaload12 F (sb6 hr).1 (i) rfl (by omega) dX6_giveNotices_72 ?_
            refine g_callV F (kX6_fill l hr (el13 (sb6 hr).2.2.1 hn2) (by omega) hn (by omega) (fun e he => by unfold noP; omega) ht h9 hp8 (by have := upR_le (gnF M r t p i (chP r i + 1 + 1)) (gnF M r t p i r 6) (t + 1); have := min_p1.mp h1; omega) h7) (cwV 3 F.1.2.2.2.2 gX6_giveNotices_X6_fill rfl rfl rfl (by decide +kernel) ⟨Nat.le_of_ble_eq_true rfl, Nat.le_of_ble_eq_true rfl⟩) hr (by decide) rfl rfl rfl rfl (Nat.le_of_ble_eq_true rfl) dX6_giveNotices_73 ⟨Nat.le_of_ble_eq_true rfl, Nat.le_of_ble_eq_true rfl⟩ (g_det ?_)
            refine g_aload_n F dX6_giveNotices_76 rfl 2 rfl ?_
            refine g_dup F dX6_giveNotices_77 rfl ?_
            refine gg6_noticeCount F iX6_giveNotices_6 hr (by decide +kernel) dX6_giveNotices_78 ?_
            refine g_iconst F (v := 1) dX6_giveNotices_81 (by decide) ?_
            refine g_iadd F dX6_giveNotices_82 ?_
            refine gp6_noticeCount F iX6_giveNotices_6 hr (by decide +kernel) dX6_giveNotices_83 ?_
            refine g_iinc F (lv2 := [(1, _), (2, _), (0, _)]) dX6_giveNotices_86 1 rfl (nI_1 _) (by decide) rfl ?_
            refine g_goto F 2 dX6_giveNotices_89 (by decide) ?_
            refine g_lv (lv2 := [(1, _), (0, _)]) [0, 2] rfl ?_
            exact g_is (by first | exact (gnS_no1 (fun z => h1 (min_p1.mpr z))).symm | exact (gnS_no2 (fun z => h2 (by rw [hn] at z; exact z))).symm | exact (gnS_yes (min_p1.mp h1) hn hn2).symm) rfl (ihi (i + 1) (by omega))
  refine g_lv (lv2 := [(1, _), (0, _)]) [0, 1] rfl ?_
  exact g_is rfl rfl (LP (8 - 0) (0) (by omega))

def clF (M : Mm) (r : Nat) : Nat → Mm
  | 0 => M
  | c + 1 => va_up (clF M r c) (chP r c + 1 + 1) (fun _ => -1)
/-- the next tick is at hand -/
def goF (M : Mm) (r t : Nat) : Mm := if t + 1 = 96 then clF (va_up M r (upd (upd (M r) 9 0) 8 (M r 8 + 1))) r 8 else va_up M r (upd (M r) 9 (nI (t + 1)))
theorem upd2 (f : Nat → Int32) (k : Nat) (x y : Int32) : upd (upd f k x) k y = upd f k y := by
  funext j; unfold upd; split <;> rfl

abbrev rmX6_goOn : Room := { frames := 2, cells := 0, slots := 0, locals := 43 }
theorem iX6_goOn_0 : ∀ w ∈ u_ws RX0 TX0 8, w ∈ wsX6_goOn := by decide +kernel
theorem iX6_goOn_6 : ∀ w ∈ u_ws RX6 TX6 10, w ∈ wsX6_goOn := by decide +kernel
set_option maxHeartbeats 4000000 in
set_option maxRecDepth 100000 in
theorem kX6_goOn (l : Launch) {M : Mm} {r t : Nat} (hr : isR 6 r) (ht : t < 96) (h9 : M r 9 = nI t) : Ct l yX6_goOn wsX6_goOn rmX6_goOn (fun B => [.ref (B + r)]) M (fun _ v u => v = none ∧ u = goF M r t) := by
  refine Ct.ofV (own := RX6) (by decide +kernel) rfl rfl (fun B => Nat.le_of_ble_eq_true rfl) ?_
  intro pp ee ss mm aa bb me c9 DD ca B Tl AA QQ F K
  show G pp l ee rmX6_goOn ss mm aa bb me c9 QQ DD ca B Tl AA 5 0 0 M 0 [(0, .ref (B + r))] []
  refine g_aload_n F dX6_goOn_0 rfl 0 rfl ?_
  refine g_dup F dX6_goOn_1 rfl ?_
  refine gg6_tick F iX6_goOn_6 hr (by decide +kernel) dX6_goOn_2 ?_
  refine g_top h9 ?_
  refine g_iconst F (v := 1) dX6_goOn_5 (by decide) ?_
  refine g_iadd F dX6_goOn_6 ?_
  refine g_top (nI_add (t) (1)) ?_
  refine gp6_tick F iX6_goOn_6 hr (by decide +kernel) dX6_goOn_7 ?_
  try simp only [bx_uu, va_up_self]
  refine g_aload_n F dX6_goOn_10 rfl 0 rfl ?_
  refine gg6_tick F iX6_goOn_6 hr (by decide +kernel) dX6_goOn_11 ?_
  refine g_top (y := nI (t + 1)) (by rw [va_up_self]; rfl) ?_
  refine g_bipush F (v := 96) dX6_goOn_14 (by decide +kernel) ?_
  refine g_icmpN_ne F 68 dX6_goOn_16 (by decide) ((t + 1)) (96) rfl rfl (by omega) (by omega) (fun h1 => ?_) (fun h1 => ?_)
  · exact K _ _ _ dX6_goOn_68 ⟨rfl, by first | (rw [goF, if_neg h1]; done) | (rw [goF, if_pos h1]; done)⟩
  · refine g_aload_n F dX6_goOn_19 rfl 0 rfl ?_
    refine g_iconst F (v := 0) dX6_goOn_20 (by decide) ?_
    refine gp6_tick F iX6_goOn_6 hr (by decide +kernel) dX6_goOn_21 ?_
    try simp only [bx_uu, va_up_self, upd2]
    refine g_aload_n F dX6_goOn_24 rfl 0 rfl ?_
    refine g_dup F dX6_goOn_25 rfl ?_
    refine gg6_day F iX6_goOn_6 hr (by decide +kernel) dX6_goOn_26 ?_
    refine g_top (y := M r 8) (by rw [va_up_self]; rfl) ?_
    refine g_iconst F (v := 1) dX6_goOn_29 (by decide) ?_
    refine g_iadd F dX6_goOn_30 ?_
    refine gp6_day F iX6_goOn_6 hr (by decide +kernel) dX6_goOn_31 ?_
    try simp only [bx_uu, va_up_self]
    refine g_aload_n F dX6_goOn_34 rfl 0 rfl ?_
    refine gg6_chimneys F iX6_goOn_6 hr (by decide +kernel) dX6_goOn_35 ?_
    refine g_astore_n F (lv2 := [(1, _), (0, _)]) dX6_goOn_38 rfl (by decide) rfl ?_
    refine g_aload_n F dX6_goOn_39 rfl 0 rfl ?_
    refine g_alen12 F (sb6 hr).1 dX6_goOn_40 ?_
    refine g_istore_n F (lv2 := [(2, _), (1, _), (0, _)]) dX6_goOn_41 rfl (by decide) rfl ?_
    refine g_iconst F (v := 0) dX6_goOn_42 (by decide) ?_
    refine g_istore_n F (lv2 := [(3, _), (2, _), (1, _), (0, _)]) dX6_goOn_43 rfl (by decide) rfl ?_
    have LP : ∀ (ni i : Nat), i + ni = 8 → G pp l ee rmX6_goOn ss mm aa bb me c9 QQ DD ca B Tl AA 5 0 0 (clF (va_up M r (upd (upd (M r) 9 0) 8 (M r 8 + 1))) r i) 44 [(3, .int (nI i)), (1, .ref (B + (r + 1))), (2, .int (nI 8))] [] := by
      intro ni
      induction ni with
      | zero =>
        intro i hni
        refine g_iload_n F dX6_goOn_44 rfl 0 rfl ?_
        refine g_iload_n F dX6_goOn_45 rfl 2 rfl ?_
        refine g_icmpN_ge F 68 dX6_goOn_46 (by decide) (i) (8) rfl rfl (by omega) (by omega) (fun hci => ?_) (fun hci => ?_)
        · obtain rfl : i = 8 := by omega
          exact K _ _ _ dX6_goOn_68 ⟨rfl, by first | (rw [goF, if_neg h1]; done) | (rw [goF, if_pos h1]; done)⟩
        · exact absurd hci (by omega)
      | succ ni ihi =>
        intro i hni
        refine g_iload_n F dX6_goOn_44 rfl 0 rfl ?_
        refine g_iload_n F dX6_goOn_45 rfl 2 rfl ?_
        refine g_icmpN_ge F 68 dX6_goOn_46 (by decide) (i) (8) rfl rfl (by omega) (by omega) (fun hci => ?_) (fun hci => ?_)
        · exact absurd hci (by omega)
        · refine g_aload_n F dX6_goOn_49 rfl 1 rfl ?_
          refine g_iload_n F dX6_goOn_50 rfl 0 rfl ?_
          refine g_aaload12 F (sb6 hr).1 (i) rfl (by omega) dX6_goOn_51 ?_
          refine g_astore F (lv2 := [(4, _), (3, _), (1, _), (2, _)]) dX6_goOn_52 (by decide) rfl ?_
          refine g_aload F dX6_goOn_54 0 rfl ?_
          refine gg0_readings F iX6_goOn_0 (el12 (sb6 hr).1 (by omega)) (by decide +kernel) dX6_goOn_56 ?_
          refine g_callV F (kX1_clear l (sb0 (el12 (sb6 hr).1 (by omega))).1) (cwV 0 F.1.2.2.2.2 gX6_goOn_X1_clear rfl rfl rfl (by decide +kernel) ⟨Nat.le_of_ble_eq_true rfl, Nat.le_of_ble_eq_true rfl⟩) (sb0 (el12 (sb6 hr).1 (by omega))).1 (by decide) rfl rfl rfl rfl (Nat.le_of_ble_eq_true rfl) dX6_goOn_59 ⟨Nat.le_of_ble_eq_true rfl, Nat.le_of_ble_eq_true rfl⟩ (g_det ?_)
          refine g_iinc F (lv2 := [(3, _), (4, _), (1, _), (2, _)]) dX6_goOn_62 1 rfl (nI_1 _) (by decide) rfl ?_
          refine g_goto F 44 dX6_goOn_65 (by decide) ?_
          refine g_lv (lv2 := [(3, _), (1, _), (2, _)]) [0, 2, 3] rfl ?_
          exact g_is rfl rfl (ihi (i + 1) (by omega))
    refine g_lv (lv2 := [(3, _), (1, _), (2, _)]) [0, 2, 1] rfl ?_
    exact g_is rfl rfl (LP (8 - 0) (0) (by omega))

/-- a tick passes -/
def ptF (M : Mm) (r t p : Nat) : Mm := goF (gnF (tiO (trG M r t) r 3) r t p 8) r t

abbrev rmX6_passTick : Room := { frames := 3, cells := 0, slots := 0, locals := 73 }
theorem iX6_passTick_6 : ∀ w ∈ u_ws RX6 TX6 10, w ∈ wsX6_passTick := by decide +kernel
set_option maxHeartbeats 4000000 in
set_option maxRecDepth 100000 in
theorem kX6_passTick (l : Launch) {M : Mm} {r t p : Nat} (hr : isR 6 r) (ht : t < 96) (hp8 : p ≤ 8) (hC : CI M r t p) : Ct l yX6_passTick wsX6_passTick rmX6_passTick (fun B => [.ref (B + r)]) M (fun _ v u => v = none ∧ u = ptF M r t p) := by
  refine Ct.ofV (own := RX6) (by decide +kernel) rfl rfl (fun B => Nat.le_of_ble_eq_true rfl) ?_
  intro pp ee ss mm aa bb me c9 DD ca B Tl AA QQ F K
  show G pp l ee rmX6_passTick ss mm aa bb me c9 QQ DD ca B Tl AA 5 0 0 M 0 [(0, .ref (B + r))] []
  have h9 := hC.1
  refine g_aload_n F dX6_passTick_0 rfl 0 rfl ?_
  refine g_callV F (kX6_takeReadings l hr ht h9) (cwV 0 F.1.2.2.2.2 gX6_passTick_X6_takeReadings rfl rfl rfl (by decide +kernel) ⟨Nat.le_of_ble_eq_true rfl, Nat.le_of_ble_eq_true rfl⟩) hr (by decide) rfl rfl rfl rfl (Nat.le_of_ble_eq_true rfl) dX6_passTick_1 ⟨Nat.le_of_ble_eq_true rfl, Nat.le_of_ble_eq_true rfl⟩ (g_det ?_)
  refine g_aload_n F dX6_passTick_4 rfl 0 rfl ?_
  refine gg6_observers F iX6_passTick_6 hr (by decide +kernel) dX6_passTick_5 ?_
  refine g_astore_n F (lv2 := [(1, _), (0, _)]) dX6_passTick_8 rfl (by decide) rfl ?_
  refine g_aload_n F dX6_passTick_9 rfl 0 rfl ?_
  refine g_alen14 F (sb6 hr).2.1 dX6_passTick_10 ?_
  refine g_istore_n F (lv2 := [(2, _), (1, _), (0, _)]) dX6_passTick_11 rfl (by decide) rfl ?_
  refine g_iconst F (v := 0) dX6_passTick_12 (by decide) ?_
  refine g_istore_n F (lv2 := [(3, _), (2, _), (1, _), (0, _)]) dX6_passTick_13 rfl (by decide) rfl ?_
  have LP : ∀ (ni i : Nat), i + ni = 3 → G pp l ee rmX6_passTick ss mm aa bb me c9 QQ DD ca B Tl AA 5 0 0 (tiO (trG M r t) r i) 14 [(3, .int (nI i)), (0, .ref (B + r)), (1, .ref (B + (r + 2))), (2, .int (nI 3))] [] := by
    intro ni
    induction ni with
    | zero =>
      intro i hni
      refine g_iload_n F dX6_passTick_14 rfl 0 rfl ?_
      refine g_iload_n F dX6_passTick_15 rfl 3 rfl ?_
      refine g_icmpN_ge F 35 dX6_passTick_16 (by decide) (i) (3) rfl rfl (by omega) (by omega) (fun hci => ?_) (fun hci => ?_)
      · obtain rfl : i = 3 := by omega
        have hC2 : CI (tiO (trG M r t) r 3) r t p := hC.row ((tiO_r 3).trans trG_r)
        refine g_aload_n F dX6_passTick_35 rfl 1 rfl ?_
        refine g_callV F (kX6_giveNotices l hr ht hp8 hC2) (cwV 0 F.1.2.2.2.2 gX6_passTick_X6_giveNotices rfl rfl rfl (by decide +kernel) ⟨Nat.le_of_ble_eq_true rfl, Nat.le_of_ble_eq_true rfl⟩) hr (by decide) rfl rfl rfl rfl (Nat.le_of_ble_eq_true rfl) dX6_passTick_36 ⟨Nat.le_of_ble_eq_true rfl, Nat.le_of_ble_eq_true rfl⟩ (g_det ?_)
        have h93 : gnF (tiO (trG M r t) r 3) r t p 8 r 9 = nI t := (gnF_CI hC2 8).1
        refine g_aload_n F dX6_passTick_39 rfl 1 rfl ?_
        refine g_callV F (kX6_goOn l hr ht h93) (cwV 0 F.1.2.2.2.2 gX6_passTick_X6_goOn rfl rfl rfl (by decide +kernel) ⟨Nat.le_of_ble_eq_true rfl, Nat.le_of_ble_eq_true rfl⟩) hr (by decide) rfl rfl rfl rfl (Nat.le_of_ble_eq_true rfl) dX6_passTick_40 ⟨Nat.le_of_ble_eq_true rfl, Nat.le_of_ble_eq_true rfl⟩ (g_det ?_)
        exact K _ _ _ dX6_passTick_43 ⟨rfl, rfl⟩
      · exact absurd hci (by omega)
    | succ ni ihi =>
      intro i hni
      refine g_iload_n F dX6_passTick_14 rfl 0 rfl ?_
      refine g_iload_n F dX6_passTick_15 rfl 3 rfl ?_
      refine g_icmpN_ge F 35 dX6_passTick_16 (by decide) (i) (3) rfl rfl (by omega) (by omega) (fun hci => ?_) (fun hci => ?_)
      · exact absurd hci (by omega)
      · refine g_aload_n F dX6_passTick_19 rfl 2 rfl ?_
        refine g_iload_n F dX6_passTick_20 rfl 0 rfl ?_
        refine g_aaload14 F (sb6 hr).2.1 (i) rfl (by omega) dX6_passTick_21 ?_
        refine g_astore F (lv2 := [(4, _), (3, _), (0, _), (1, _), (2, _)]) dX6_passTick_22 (by decide) rfl ?_
        refine g_aload F dX6_passTick_24 0 rfl ?_
        refine g_callV F (kX4_tire l (el14 (sb6 hr).2.1 (by omega))) (cwV 0 F.1.2.2.2.2 gX6_passTick_X4_tire rfl rfl rfl (by decide +kernel) ⟨Nat.le_of_ble_eq_true rfl, Nat.le_of_ble_eq_true rfl⟩) (el14 (sb6 hr).2.1 (by omega)) (by decide) rfl rfl rfl rfl (Nat.le_of_ble_eq_true rfl) dX6_passTick_26 ⟨Nat.le_of_ble_eq_true rfl, Nat.le_of_ble_eq_true rfl⟩ (g_det ?_)
        refine g_iinc F (lv2 := [(3, _), (4, _), (0, _), (1, _), (2, _)]) dX6_passTick_29 1 rfl (nI_1 _) (by decide) rfl ?_
        refine g_goto F 14 dX6_passTick_32 (by decide) ?_
        refine g_lv (lv2 := [(3, _), (0, _), (1, _), (2, _)]) [0, 2, 3, 4] rfl ?_
        exact g_is rfl rfl (ihi (i + 1) (by omega))
  refine g_lv (lv2 := [(3, _), (0, _), (1, _), (2, _)]) [0, 3, 2, 1] rfl ?_
  exact g_is rfl rfl (LP (3 - 0) (0) (by omega))
