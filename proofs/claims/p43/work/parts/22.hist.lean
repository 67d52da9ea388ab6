theorem r141 : isR 2 141 := ⟨by decide, by decide +kernel⟩
theorem s142 : isR 15 142 := ⟨by decide, by decide +kernel⟩
/-- the states' numbers are places of ridges -/
def hsS (f : Nat → Int32) : Prop := ∀ j, j < 6 → (f j).toNatClampNeg < 6 ∧ nI (f j).toNatClampNeg = f j
abbrev stP (f : Nat → Int32) (j : Nat) : Nat := 143 + 70 * (f j).toNatClampNeg
def roS (f : Nat → Int32) (i : Nat) : Nat → Int32 := fun j => if j + 1 < i then f (j + 1) else f j
def roF (f : Nat → Int32) : Nat → Int32 := fun j => if j < 5 then f (j + 1) else if j = 5 then f 0 else f j
theorem roS_at (f : Nat → Int32) (i : Nat) : roS f i i = f i := if_neg (by omega)
theorem roS_1 (f : Nat → Int32) : roS f 1 = f := by funext j; exact if_neg (by omega)
theorem roS_up (f : Nat → Int32) {i : Nat} (hi : 1 ≤ i) : upd (roS f i) (i - 1) (f i) = roS f (i + 1) := by
  funext j; unfold upd roS
  by_cases h1 : j = i - 1
  · subst h1; rw [if_pos rfl, if_pos (by omega), show i - 1 + 1 = i by omega]
  · rw [if_neg h1]
    by_cases h2 : j + 1 < i
    · rw [if_pos h2, if_pos (by omega)]
    · rw [if_neg h2, if_neg (by omega)]
theorem roS_6 (f : Nat → Int32) : upd (roS f 6) 5 (f 0) = roF f := by
  funext j; unfold upd roS roF
  by_cases h1 : j = 5
  · subst h1; simp
  · rw [if_neg h1]
    by_cases h2 : j < 5
    · rw [if_pos h2, if_pos (by omega)]
    · rw [if_neg h2, if_neg (by omega), if_neg h1]
theorem roF_hs {f : Nat → Int32} (h : hsS f) : hsS (roF f) := by
  intro j hj
  unfold roF
  by_cases h2 : j < 5
  · rw [if_pos h2]; exact h _ (by omega)
  · rw [if_neg h2, if_pos (show j = 5 by omega)]; exact h _ (by omega)
def dropM (M : Mm) : Mm := va_up (va_up M 142 (roF (M 142))) 141 (upd (M 141) 1 5)

abbrev rmX2_dropOldest : Room := { frames := 0, cells := 0, slots := 0, locals := 0 }
theorem iX2_dropOldest_2 : ∀ w ∈ u_ws RX2 TX2 2, w ∈ wsX2_dropOldest := by decide +kernel
set_option maxHeartbeats 4000000 in
set_option maxRecDepth 100000 in
theorem kX2_dropOldest (l : Launch) {M : Mm} (hS : hsS (M 142)) : Ct l yX2_dropOldest wsX2_dropOldest rmX2_dropOldest (fun B => [.ref (B + 141)]) M (fun _ v u => v = none ∧ u = dropM M) := by
  refine Ct.ofV (own := RX2) (by decide +kernel) rfl rfl (fun B => Nat.le_of_ble_eq_true rfl) ?_
  intro pp ee ss mm aa bb me c9 DD ca B Tl AA QQ F K
  show G pp l ee rmX2_dropOldest ss mm aa bb me c9 QQ DD ca B Tl AA 3 0 0 M 0 [(0, .ref (B + 141))] []
  refine g_aload_n F dX2_dropOldest_0 rfl 0 rfl ?_
  refine gg2_states F iX2_dropOldest_2 r141 (by decide +kernel) dX2_dropOldest_1 ?_
  refine g_iconst F (v := 0) dX2_dropOldest_4 (by decide) ?_
  refine g_aaload15 F (sb2 r141) (0) rfl (by omega) dX2_dropOldest_5 ?_
  refine g_astore_n F (lv2 := [(1, _), (0, _)]) dX2_dropOldest_6 rfl (by decide) rfl ?_
  refine g_iconst F (v := 1) dX2_dropOldest_7 (by decide) ?_
  refine g_istore_n F (lv2 := [(2, _), (1, _), (0, _)]) dX2_dropOldest_8 rfl (by decide) rfl ?_
  have LP : ∀ (ni i : Nat), i + ni = 6 → 1 ≤ i → G pp l ee rmX2_dropOldest ss mm aa bb me c9 QQ DD ca B Tl AA 3 0 0 (va_up M 142 (roS (M 142) i)) 9 [(2, .int (nI i)), (0, .ref (B + 141)), (1, .ref (B + (141 + 1 + 1 + 70 * (M 142 0).toNatClampNeg)))] [] := by
    intro ni
    induction ni with
    | zero =>
      intro i hni hyi
      refine g_iload_n F dX2_dropOldest_9 rfl 0 rfl ?_
      refine g_bipush F (v := 6) dX2_dropOldest_10 (by decide +kernel) ?_
      refine g_icmpN_ge F 35 dX2_dropOldest_12 (by decide) (i) (6) rfl rfl (by omega) (by omega) (fun hci => ?_) (fun hci => ?_)
      · obtain rfl : i = 6 := by omega
        refine g_aload_n F dX2_dropOldest_35 rfl 1 rfl ?_
        refine gg2_states F iX2_dropOldest_2 r141 (by decide +kernel) dX2_dropOldest_36 ?_
        refine g_iconst F (v := 5) dX2_dropOldest_39 (by decide) ?_
        refine g_aload_n F dX2_dropOldest_40 rfl 2 rfl ?_
        refine g_aastore15 F (sb2 r141) (5) rfl (by omega) ((M 142 0).toNatClampNeg) rfl (hS 0 (by decide)).1 dX2_dropOldest_41 ?_
        try simp only [bx_uu, va_up_self]
        rw [(hS 0 (by decide)).2, roS_6]
        refine g_aload_n F dX2_dropOldest_42 rfl 1 rfl ?_
        refine g_iconst F (v := 5) dX2_dropOldest_43 (by decide) ?_
        refine gp2_count F iX2_dropOldest_2 r141 (by decide +kernel) dX2_dropOldest_44 ?_
        try simp only [va_up_ne M _ (show 141 ≠ 142 by decide)]
        exact K _ _ _ dX2_dropOldest_47 ⟨rfl, rfl⟩
      · exact absurd hci (by omega)
    | succ ni ihi =>
      intro i hni hyi
      refine g_iload_n F dX2_dropOldest_9 rfl 0 rfl ?_
      refine g_bipush F (v := 6) dX2_dropOldest_10 (by decide +kernel) ?_
      refine g_icmpN_ge F 35 dX2_dropOldest_12 (by decide) (i) (6) rfl rfl (by omega) (by omega) (fun hci => ?_) (fun hci => ?_)
      · exact absurd hci (by omega)
      · refine g_aload_n F dX2_dropOldest_15 rfl 1 rfl ?_
        refine gg2_states F iX2_dropOldest_2 r141 (by decide +kernel) dX2_dropOldest_16 ?_
        refine g_iload_n F dX2_dropOldest_19 rfl 0 rfl ?_
        refine g_iconst F (v := 1) dX2_dropOldest_20 (by decide) ?_
        refine g_isub F dX2_dropOldest_21 ?_
        refine g_top (pk_sub (a := i) (b := 1) (by omega)) ?_
        refine g_aload_n F dX2_dropOldest_22 rfl 1 rfl ?_
        refine gg2_states F iX2_dropOldest_2 r141 (by decide +kernel) dX2_dropOldest_23 ?_
        refine g_iload_n F dX2_dropOldest_26 rfl 0 rfl ?_
        refine g_aaload15 F (sb2 r141) (i) rfl (by omega) dX2_dropOldest_27 ?_
        refine g_aastore15 F (sb2 r141) ((i - 1)) rfl (by omega) ((M 142 i).toNatClampNeg) (by rw [va_up_self, roS_at]) (hS i (by omega)).1 dX2_dropOldest_28 ?_
        refine g_iinc F (lv2 := [(2, _), (0, _), (1, _)]) dX2_dropOldest_29 0 rfl (nI_1 _) (by decide) rfl ?_
        refine g_goto F 9 dX2_dropOldest_32 (by decide) ?_
        refine g_lv (lv2 := [(2, _), (0, _), (1, _)]) [0, 1, 2] rfl ?_
        exact g_is (by rw [bx_uu, va_up_self, (hS i (by omega)).2, roS_up _ (by omega)]) rfl (ihi (i + 1) (by omega) (by omega))
  refine g_lv (lv2 := [(2, _), (0, _), (1, _)]) [0, 2, 1] rfl ?_
  exact g_is (by rw [roS_1, up_id]) rfl (LP (6 - 1) (1) (by omega) (Nat.le_refl _))

/-- the history before the copy, when it holds n -/
def hdM (M : Mm) (n : Nat) : Mm := if 6 ≤ n then dropM M else M
def recM (M : Mm) (n q : Nat) : Mm := va_up (cpR (hdM M n) (stP (hdM M n 142) (min n 5)) q) 141 (upd (hdM M n 141) 1 (nI (min n 5 + 1)))
theorem cpR_out {M : Mm} {r q x : Nat} (h : x < r ∨ r + 70 ≤ x) : cpR M r q x = M x := cpI_out (by omega)
theorem dropM_142 (M : Mm) : dropM M 142 = roF (M 142) := rfl
theorem dropM_141 (M : Mm) : dropM M 141 = upd (M 141) 1 5 := rfl

abbrev rmX2_record : Room := { frames := 4, cells := 0, slots := 0, locals := 124 }
theorem iX2_record_2 : ∀ w ∈ u_ws RX2 TX2 2, w ∈ wsX2_record := by decide +kernel
set_option maxHeartbeats 4000000 in
set_option maxRecDepth 100000 in
theorem kX2_record (l : Launch) {M : Mm} {q n : Nat} (hq : isR 6 q) (hq1 : q + 70 ≤ 141) (hS : hsS (M 142)) (hn6 : n ≤ 6) (hc : M 141 1 = nI n) : Ct l yX2_record wsX2_record rmX2_record (fun B => [.ref (B + 141), .ref (B + q)]) M (fun _ v u => v = none ∧ u = recM M n q) := by
  refine Ct.ofV (own := RX2) (by decide +kernel) rfl rfl (fun B => Nat.le_of_ble_eq_true rfl) ?_
  intro pp ee ss mm aa bb me c9 DD ca B Tl AA QQ F K
  show G pp l ee rmX2_record ss mm aa bb me c9 QQ DD ca B Tl AA 2 0 0 M 0 [(0, .ref (B + 141)), (1, .ref (B + q))] []
  have hS5 : hsS (dropM M 142) := roF_hs hS
  refine g_aload_n F dX2_record_0 rfl 0 rfl ?_
  refine gg2_count F iX2_record_2 r141 (by decide +kernel) dX2_record_1 ?_
  refine g_top hc ?_
  refine g_bipush F (v := 6) dX2_record_4 (by decide +kernel) ?_
  refine g_icmpN_lt F 13 dX2_record_6 (by decide) (n) (6) rfl rfl (by omega) (by omega) (fun h1 => ?_) (fun h1 => ?_)
  · refine g_aload_n F dX2_record_13 rfl 0 rfl ?_
    refine gg2_count F iX2_record_2 r141 (by decide +kernel) dX2_record_14 ?_
    refine g_top (y := nI (n)) hc ?_
    refine g_iconst F (v := 0) dX2_record_17 (by decide) ?_
    refine g_iconst F (v := 5) dX2_record_18 (by decide) ?_
    refine g_callSN F (kX8_isWithin l _ _ _) ⟨va_cnB 3 F.1.2.2.2.2 gX2_record_X8_isWithin_n25 rfl rfl rfl (F.2.2.2.1.1 (RX2, 25, yX8_isWithin, "ShadeCards") (by decide +kernel)) (F.1.2.2.2.2 (.initialized RX8) (by decide +kernel)) (by decide +kernel) ⟨Nat.le_of_ble_eq_true rfl, Nat.le_of_ble_eq_true rfl⟩, F.1.2.2.2.2 (.static yX8_isWithin) (by decide +kernel), trivial⟩ rfl rfl rfl (Nat.le_of_ble_eq_true rfl) dX2_record_19 ⟨Nat.le_of_ble_eq_true rfl, Nat.le_of_ble_eq_true rfl⟩ (g_det ?_)
    refine g_ifB_eq F 48 dX2_record_22 (by decide) (fun h2 => ?_) (fun h2 => ?_)
    · exact absurd ⟨nI_ge0 _ (by omega), (nI_leI (a := n) (b := 5) (by omega) (by omega)).mpr (by omega)⟩ h2
    · refine g_aload_n F dX2_record_25 rfl 0 rfl ?_
      refine gg2_states F iX2_record_2 r141 (by decide +kernel) dX2_record_26 ?_
      refine g_aload_n F dX2_record_29 rfl 0 rfl ?_
      refine gg2_count F iX2_record_2 r141 (by decide +kernel) dX2_record_30 ?_
      refine g_top (y := nI (n)) hc ?_
      refine g_aaload15 F (sb2 r141) (n) rfl (by omega) dX2_record_33 ?_
      refine g_aload_n F dX2_record_34 rfl 1 rfl ?_
      refine g_callV F (kX6_copyFrom l (el15 s142 (hS n (by omega)).1) hq (by omega)) (cwV 1 F.1.2.2.2.2 gX2_record_X6_copyFrom rfl rfl rfl (by decide +kernel) ⟨Nat.le_of_ble_eq_true rfl, Nat.le_of_ble_eq_true rfl⟩) (el15 s142 (hS n (by omega)).1) (by decide) rfl rfl rfl rfl (Nat.le_of_ble_eq_true rfl) dX2_record_35 ⟨Nat.le_of_ble_eq_true rfl, Nat.le_of_ble_eq_true rfl⟩ (g_det ?_)
      refine g_aload_n F dX2_record_38 rfl 0 rfl ?_
      refine g_dup F dX2_record_39 rfl ?_
      refine gg2_count F iX2_record_2 r141 (by decide +kernel) dX2_record_40 ?_
      refine g_top (y := nI (n)) (by rw [cpR_out (by omega)]; exact hc) ?_
      refine g_iconst F (v := 1) dX2_record_43 (by decide) ?_
      refine g_iadd F dX2_record_44 ?_
      refine g_top (nI_add (n) (1)) ?_
      refine gp2_count F iX2_record_2 r141 (by decide +kernel) dX2_record_45 ?_
      exact K _ _ _ dX2_record_48 ⟨rfl, by first | (rw [recM, show hdM M n = M from if_neg (by omega), show min n 5 = n by omega, cpR_out (by omega)]; done) | (rw [recM, hd6, show min n 5 = 5 by omega, cpR_out (by omega)]; done)⟩
  · have hd6 : hdM M n = dropM M := if_pos (by omega)
    refine g_aload_n F dX2_record_9 rfl 0 rfl ?_
    refine g_callV F (kX2_dropOldest l hS) (cwV 0 F.1.2.2.2.2 gX2_record_X2_dropOldest rfl rfl rfl (by decide +kernel) ⟨Nat.le_of_ble_eq_true rfl, Nat.le_of_ble_eq_true rfl⟩) r141 (by decide) rfl rfl rfl rfl (Nat.le_of_ble_eq_true rfl) dX2_record_10 ⟨Nat.le_of_ble_eq_true rfl, Nat.le_of_ble_eq_true rfl⟩ (g_det ?_)
    refine g_aload_n F dX2_record_13 rfl 0 rfl ?_
    refine gg2_count F iX2_record_2 r141 (by decide +kernel) dX2_record_14 ?_
    refine g_top (y := nI (5)) (by rfl) ?_
    refine g_iconst F (v := 0) dX2_record_17 (by decide) ?_
    refine g_iconst F (v := 5) dX2_record_18 (by decide) ?_
    refine g_callSN F (kX8_isWithin l _ _ _) ⟨va_cnB 3 F.1.2.2.2.2 gX2_record_X8_isWithin_n25 rfl rfl rfl (F.2.2.2.1.1 (RX2, 25, yX8_isWithin, "ShadeCards") (by decide +kernel)) (F.1.2.2.2.2 (.initialized RX8) (by decide +kernel)) (by decide +kernel) ⟨Nat.le_of_ble_eq_true rfl, Nat.le_of_ble_eq_true rfl⟩, F.1.2.2.2.2 (.static yX8_isWithin) (by decide +kernel), trivial⟩ rfl rfl rfl (Nat.le_of_ble_eq_true rfl) dX2_record_19 ⟨Nat.le_of_ble_eq_true rfl, Nat.le_of_ble_eq_true rfl⟩ (g_det ?_)
    refine g_ifB_eq F 48 dX2_record_22 (by decide) (fun h2 => ?_) (fun h2 => ?_)
    · exact absurd ⟨nI_ge0 _ (by omega), (nI_leI (a := 5) (b := 5) (by omega) (by omega)).mpr (by omega)⟩ h2
    · refine g_aload_n F dX2_record_25 rfl 0 rfl ?_
      refine gg2_states F iX2_record_2 r141 (by decide +kernel) dX2_record_26 ?_
      refine g_aload_n F dX2_record_29 rfl 0 rfl ?_
      refine gg2_count F iX2_record_2 r141 (by decide +kernel) dX2_record_30 ?_
      refine g_top (y := nI (5)) (by rfl) ?_
      refine g_aaload15 F (sb2 r141) (5) rfl (by omega) dX2_record_33 ?_
      refine g_aload_n F dX2_record_34 rfl 1 rfl ?_
      refine g_callV F (kX6_copyFrom l (el15 s142 (hS5 5 (by omega)).1) hq (by omega)) (cwV 1 F.1.2.2.2.2 gX2_record_X6_copyFrom rfl rfl rfl (by decide +kernel) ⟨Nat.le_of_ble_eq_true rfl, Nat.le_of_ble_eq_true rfl⟩) (el15 s142 (hS5 5 (by omega)).1) (by decide) rfl rfl rfl rfl (Nat.le_of_ble_eq_true rfl) dX2_record_35 ⟨Nat.le_of_ble_eq_true rfl, Nat.le_of_ble_eq_true rfl⟩ (g_det ?_)
      refine g_aload_n F dX2_record_38 rfl 0 rfl ?_
      refine g_dup F dX2_record_39 rfl ?_
      refine gg2_count F iX2_record_2 r141 (by decide +kernel) dX2_record_40 ?_
      refine g_top (y := nI (5)) (by rw [cpR_out (by omega)]; exact (by rfl)) ?_
      refine g_iconst F (v := 1) dX2_record_43 (by decide) ?_
      refine g_iadd F dX2_record_44 ?_
      refine g_top (nI_add (5) (1)) ?_
      refine gp2_count F iX2_record_2 r141 (by decide +kernel) dX2_record_45 ?_
      exact K _ _ _ dX2_record_48 ⟨rfl, by first | (rw [recM, show hdM M n = M from if_neg (by omega), show min n 5 = n by omega, cpR_out (by omega)]; done) | (rw [recM, hd6, show min n 5 = 5 by omega, cpR_out (by omega)]; done)⟩

def gbM (M : Mm) (n q : Nat) : Mm := cpR (va_up M 141 (upd (M 141) 1 (nI (n - 1)))) q (stP (M 142) (n - 1))

abbrev rmX2_giveBack : Room := { frames := 4, cells := 0, slots := 0, locals := 124 }
theorem iX2_giveBack_2 : ∀ w ∈ u_ws RX2 TX2 2, w ∈ wsX2_giveBack := by decide +kernel
set_option maxHeartbeats 4000000 in
set_option maxRecDepth 100000 in
theorem kX2_giveBack (l : Launch) {M : Mm} {q n : Nat} (hq : isR 6 q) (hq1 : q + 70 ≤ 141) (hS : hsS (M 142)) (hn1 : 1 ≤ n) (hn6 : n ≤ 6) (hc : M 141 1 = nI n) : Ct l yX2_giveBack wsX2_giveBack rmX2_giveBack (fun B => [.ref (B + 141), .ref (B + q)]) M (fun _ v u => v = none ∧ u = gbM M n q) := by
  refine Ct.ofV (own := RX2) (by decide +kernel) rfl rfl (fun B => Nat.le_of_ble_eq_true rfl) ?_
  intro pp ee ss mm aa bb me c9 DD ca B Tl AA QQ F K
  show G pp l ee rmX2_giveBack ss mm aa bb me c9 QQ DD ca B Tl AA 2 0 0 M 0 [(0, .ref (B + 141)), (1, .ref (B + q))] []
  refine g_aload_n F dX2_giveBack_0 rfl 0 rfl ?_
  refine gg2_count F iX2_giveBack_2 r141 (by decide +kernel) dX2_giveBack_1 ?_
  refine g_top hc ?_
  refine g_iconst F (v := 1) dX2_giveBack_4 (by decide) ?_
  refine g_bipush F (v := 6) dX2_giveBack_5 (by decide +kernel) ?_
  refine g_callSN F (kX8_isWithin l _ _ _) ⟨va_cnB 3 F.1.2.2.2.2 gX2_giveBack_X8_isWithin_n25 rfl rfl rfl (F.2.2.2.1.1 (RX2, 25, yX8_isWithin, "ShadeCards") (by decide +kernel)) (F.1.2.2.2.2 (.initialized RX8) (by decide +kernel)) (by decide +kernel) ⟨Nat.le_of_ble_eq_true rfl, Nat.le_of_ble_eq_true rfl⟩, F.1.2.2.2.2 (.static yX8_isWithin) (by decide +kernel), trivial⟩ rfl rfl rfl (Nat.le_of_ble_eq_true rfl) dX2_giveBack_7 ⟨Nat.le_of_ble_eq_true rfl, Nat.le_of_ble_eq_true rfl⟩ (g_det ?_)
  refine g_ifB_eq F 36 dX2_giveBack_10 (by decide) (fun h2 => ?_) (fun h2 => ?_)
  · exact absurd ⟨(nI_leI (a := 1) (b := n) (by omega) (by omega)).mpr (by omega), (nI_leI (a := n) (b := 6) (by omega) (by omega)).mpr (by omega)⟩ h2
  · refine g_aload_n F dX2_giveBack_13 rfl 0 rfl ?_
    refine g_dup F dX2_giveBack_14 rfl ?_
    refine gg2_count F iX2_giveBack_2 r141 (by decide +kernel) dX2_giveBack_15 ?_
    refine g_top hc ?_
    refine g_iconst F (v := 1) dX2_giveBack_18 (by decide) ?_
    refine g_isub F dX2_giveBack_19 ?_
    refine g_top (pk_sub (a := n) (b := 1) (by omega)) ?_
    refine gp2_count F iX2_giveBack_2 r141 (by decide +kernel) dX2_giveBack_20 ?_
    refine g_aload_n F dX2_giveBack_23 rfl 1 rfl ?_
    refine g_aload_n F dX2_giveBack_24 rfl 0 rfl ?_
    refine gg2_states F iX2_giveBack_2 r141 (by decide +kernel) dX2_giveBack_25 ?_
    refine g_aload_n F dX2_giveBack_28 rfl 0 rfl ?_
    refine gg2_count F iX2_giveBack_2 r141 (by decide +kernel) dX2_giveBack_29 ?_
    refine g_top (y := nI (n - 1)) (by rfl) ?_
    refine g_aaload15 F (sb2 r141) ((n - 1)) rfl (by omega) dX2_giveBack_32 ?_
    refine g_callV F (kX6_copyFrom l hq (el15 s142 (hS (n - 1) (by omega)).1) (by omega)) (cwV 1 F.1.2.2.2.2 gX2_giveBack_X6_copyFrom rfl rfl rfl (by decide +kernel) ⟨Nat.le_of_ble_eq_true rfl, Nat.le_of_ble_eq_true rfl⟩) hq (by decide) rfl rfl rfl rfl (Nat.le_of_ble_eq_true rfl) dX2_giveBack_33 ⟨Nat.le_of_ble_eq_true rfl, Nat.le_of_ble_eq_true rfl⟩ (g_det ?_)
    exact K _ _ _ dX2_giveBack_36 ⟨rfl, rfl⟩
