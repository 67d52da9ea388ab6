theorem ofe {x : Int32} {n : Nat} (hn : n ≤ 20) (h : 0 ≤ x ∧ x ≤ nI n - 1) : ∃ e, e < n ∧ x = nI e := by
  obtain ⟨j, hj, rfl⟩ := nI_of (Int32.not_lt.mpr h.1)
  by_cases h0 : n = 0
  · subst h0
    exact absurd (Int32.lt_of_le_of_lt (Int32.le_trans h.1 h.2) (show nI 0 - 1 < 0 by decide)) (Int32.lt_irrefl)
  · have e : nI n - 1 = nI (n - 1) := pk_sub (a := n) (b := 1) (by omega)
    have := (nI_leI hj (by omega)).mp (e ▸ h.2)
    exact ⟨j, by omega, rfl⟩
/-- x is a notice's number -/
abbrev isN (n : Nat) (x : Int32) : Prop := 0 ≤ x ∧ x ≤ nI n - 1
theorem isN_iff {y x : Int32} {n : Nat} (h : y = nI n) : (0 ≤ x ∧ x ≤ y - 1) ↔ isN n x := by rw [h]
def finR (f : Nat → Int32) (x : Int32) : Nat → Int32
  | 0 => 0
  | i + 1 => finR f x i + (if f (92 + i) = x ∧ f (132 + i) < 2 then f (112 + i) else 0)
def wcR (f : Nat → Int32) (n : Nat) : Nat → Int32 × Int32
  | 0 => (-1, 0)
  | c + 1 => if (wcR f n c).2 < finR f (nI c) n then (nI c, finR f (nI c) n) else wcR f n c
def daB (f : Nat → Int32) (e : Nat) : Int32 := if f (152 + e) < 2 then 1 else 0
def daR (f : Nat → Int32) (e c : Nat) : Nat → Int32 := upd (upd f (132 + e) (if f (152 + e) < 2 then 2 else 1)) (84 + c) (upd f (132 + e) (if f (152 + e) < 2 then 2 else 1) (84 + c) + (if f (152 + e) < 2 then f (112 + e) else 0))
def cntR (f : Nat → Int32) (y : Int32) : Nat → Int32
  | 0 => 0
  | i + 1 => cntR f y i + (if f i < y then 0 else 1)
def lonR (f : Nat → Int32) (y : Int32) : Nat → Int32
  | 0 => 0
  | i + 1 => if lonR f y i < nI (upR f y (i + 1)) then nI (upR f y (i + 1)) else lonR f y i

def tnR (f : Nat → Int32) (a n : Nat) (x : Int32) : Int32 := if isN n x then f (a + x.toNatClampNeg) else 0
def tnT (n : Nat) (x : Int32) : Int32 := if isN n x then 0 else 1

abbrev rmX9_tellNotice : Room := { frames := 2, cells := 0, slots := 0, locals := 43 }
theorem iX9_tellNotice_9 : ∀ w ∈ u_ws RX9 TX9 15, w ∈ wsX9_tellNotice := by decide +kernel
set_option maxHeartbeats 200000 in
set_option maxRecDepth 100000 in
theorem kX9_tellNotice (l : Launch) {M : Mm} {a : Nat} (ha : a ≤ 200) {n : Nat} (hn : M 710 75 = nI n) (hn20 : n ≤ 20) (x : Int32) : Ct l yX9_tellNotice wsX9_tellNotice rmX9_tellNotice (fun B => [.ref (B + 709), .int (nI a), .int x]) M (fun _ v u => v = some (.int (tnR (M 710) a n x)) ∧ u = thM M (tnT n x)) := by
  refine Ct.ofI (own := RX9) (by decide +kernel) rfl rfl (fun B => Nat.le_of_ble_eq_true rfl) ?_
  intro pp ee ss mm aa bb me c9 DD ca B Tl AA QQ F K
  show G pp l ee rmX9_tellNotice ss mm aa bb me c9 QQ DD ca B Tl AA 3 0 0 M 0 [(0, .ref (B + 709)), (1, .int (nI a)), (2, .int x)] []
  refine g_aload_n F dX9_tellNotice_0 rfl 0 rfl ?_
  refine g_iconst F (v := 0) dX9_tellNotice_1 (by decide) ?_
  refine gp9_thrown F iX9_tellNotice_9 r709 (by decide +kernel) dX9_tellNotice_2 ?_
  refine g_mem (show va_up M 709 (upd (M 709) 0 0) = thM M 0 from rfl) ?_
  refine g_aload_n F dX9_tellNotice_5 rfl 0 rfl ?_
  refine g_iload_n F dX9_tellNotice_6 rfl 2 rfl ?_
  refine g_callV F (kX9_isNotice l (M := (thM M 0)) _) (cwV 1 F.1.2.2.2.2 gX9_tellNotice_X9_isNotice rfl rfl rfl (by decide +kernel) ⟨Nat.le_of_ble_eq_true rfl, Nat.le_of_ble_eq_true rfl⟩) r709 (by decide) rfl rfl rfl rfl (Nat.le_of_ble_eq_true rfl) dX9_tellNotice_7 ⟨Nat.le_of_ble_eq_true rfl, Nat.le_of_ble_eq_true rfl⟩ (g_det ?_)
  refine g_ifB_eq F 24 dX9_tellNotice_10 (by decide) (fun h1 => ?_) (fun h1 => ?_)
  · have e0 : tnR (M 710) a n x = 0 := if_neg (fun z => h1 ((isN_iff hn).mpr z))
    have e1 : tnT n x = 1 := if_neg (fun z => h1 ((isN_iff hn).mpr z))
    refine g_aload_n F dX9_tellNotice_24 rfl 0 rfl ?_
    refine g_iconst F (v := 1) dX9_tellNotice_25 (by decide) ?_
    refine g_callV F (kX9_fails l _) (cwV 1 F.1.2.2.2.2 gX9_tellNotice_X9_fails rfl rfl rfl (by decide +kernel) ⟨Nat.le_of_ble_eq_true rfl, Nat.le_of_ble_eq_true rfl⟩) r709 (by decide) rfl rfl rfl rfl (Nat.le_of_ble_eq_true rfl) dX9_tellNotice_26 ⟨Nat.le_of_ble_eq_true rfl, Nat.le_of_ble_eq_true rfl⟩ (g_det ?_)
    refine g_mem (thM_2 M 0 _) ?_
    exact K _ _ _ _ dX9_tellNotice_29 rfl ⟨by first | (rw [e0]; done) | (rw [e0, nI_clamp (by omega)]; rfl), by rw [e1]⟩
  · have hN0 : isN n x := (isN_iff hn).mp h1
    have e0 : tnR (M 710) a n x = M 710 (a + x.toNatClampNeg) := if_pos hN0
    have e1 : tnT n x = 0 := if_pos hN0
    have hN1 : isN n x := (isN_iff hn).mp h1
    obtain ⟨e, he, rfl⟩ := ofe hn20 hN1
    refine g_aload_n F dX9_tellNotice_13 rfl 0 rfl ?_
    refine gg9_state F iX9_tellNotice_9 r709 (by decide +kernel) dX9_tellNotice_14 ?_
    refine g_iload_n F dX9_tellNotice_17 rfl 1 rfl ?_
    refine g_iload_n F dX9_tellNotice_18 rfl 2 rfl ?_
    refine g_iadd F dX9_tellNotice_19 ?_
    refine g_top (nI_add (a) (e)) ?_
    refine g_iaload (r := 710) F a710 ((a + e)) rfl (by omega) (by decide) dX9_tellNotice_20 ?_
    refine g_goto F 29 dX9_tellNotice_21 (by decide) ?_
    exact K _ _ _ _ dX9_tellNotice_29 rfl ⟨by first | (rw [e0]; done) | (rw [e0, nI_clamp (by omega)]; rfl), by rw [e1]⟩

abbrev rmX9_chimneyOf : Room := { frames := 3, cells := 0, slots := 0, locals := 65 }
set_option maxHeartbeats 200000 in
set_option maxRecDepth 100000 in
theorem kX9_chimneyOf (l : Launch) {M : Mm} {n : Nat} (hn : M 710 75 = nI n) (hn20 : n ≤ 20) (x : Int32) : Ct l yX9_chimneyOf wsX9_chimneyOf rmX9_chimneyOf (fun B => [.ref (B + 709), .int x]) M (fun _ v u => v = some (.int (tnR (M 710) 92 n x)) ∧ u = thM M (tnT n x)) := by
  refine Ct.ofI (own := RX9) (by decide +kernel) rfl rfl (fun B => Nat.le_of_ble_eq_true rfl) ?_
  intro pp ee ss mm aa bb me c9 DD ca B Tl AA QQ F K
  show G pp l ee rmX9_chimneyOf ss mm aa bb me c9 QQ DD ca B Tl AA 2 0 0 M 0 [(0, .ref (B + 709)), (1, .int x)] []
  refine g_aload_n F dX9_chimneyOf_0 rfl 0 rfl ?_
  refine g_bipush F (v := 92) dX9_chimneyOf_1 (by decide +kernel) ?_
  refine g_iload_n F dX9_chimneyOf_3 rfl 1 rfl ?_
  refine g_callV F (kX9_tellNotice l (a := 92) (by decide) hn hn20 _) (cwV 2 F.1.2.2.2.2 gX9_chimneyOf_X9_tellNotice rfl rfl rfl (by decide +kernel) ⟨Nat.le_of_ble_eq_true rfl, Nat.le_of_ble_eq_true rfl⟩) r709 (by decide) rfl rfl rfl rfl (Nat.le_of_ble_eq_true rfl) dX9_chimneyOf_4 ⟨Nat.le_of_ble_eq_true rfl, Nat.le_of_ble_eq_true rfl⟩ (g_det ?_)
  exact K _ _ _ _ dX9_chimneyOf_7 rfl ⟨rfl, rfl⟩

abbrev rmX9_fineOf : Room := { frames := 3, cells := 0, slots := 0, locals := 65 }
set_option maxHeartbeats 200000 in
set_option maxRecDepth 100000 in
theorem kX9_fineOf (l : Launch) {M : Mm} {n : Nat} (hn : M 710 75 = nI n) (hn20 : n ≤ 20) (x : Int32) : Ct l yX9_fineOf wsX9_fineOf rmX9_fineOf (fun B => [.ref (B + 709), .int x]) M (fun _ v u => v = some (.int (tnR (M 710) 112 n x)) ∧ u = thM M (tnT n x)) := by
  refine Ct.ofI (own := RX9) (by decide +kernel) rfl rfl (fun B => Nat.le_of_ble_eq_true rfl) ?_
  intro pp ee ss mm aa bb me c9 DD ca B Tl AA QQ F K
  show G pp l ee rmX9_fineOf ss mm aa bb me c9 QQ DD ca B Tl AA 2 0 0 M 0 [(0, .ref (B + 709)), (1, .int x)] []
  refine g_aload_n F dX9_fineOf_0 rfl 0 rfl ?_
  refine g_bipush F (v := 112) dX9_fineOf_1 (by decide +kernel) ?_
  refine g_iload_n F dX9_fineOf_3 rfl 1 rfl ?_
  refine g_callV F (kX9_tellNotice l (a := 112) (by decide) hn hn20 _) (cwV 2 F.1.2.2.2.2 gX9_fineOf_X9_tellNotice rfl rfl rfl (by decide +kernel) ⟨Nat.le_of_ble_eq_true rfl, Nat.le_of_ble_eq_true rfl⟩) r709 (by decide) rfl rfl rfl rfl (Nat.le_of_ble_eq_true rfl) dX9_fineOf_4 ⟨Nat.le_of_ble_eq_true rfl, Nat.le_of_ble_eq_true rfl⟩ (g_det ?_)
  exact K _ _ _ _ dX9_fineOf_7 rfl ⟨rfl, rfl⟩

abbrev rmX9_wouldAppeal : Room := { frames := 2, cells := 0, slots := 0, locals := 43 }
theorem iX9_wouldAppeal_9 : ∀ w ∈ u_ws RX9 TX9 15, w ∈ wsX9_wouldAppeal := by decide +kernel
set_option maxHeartbeats 200000 in
set_option maxRecDepth 100000 in
theorem kX9_wouldAppeal (l : Launch) {M : Mm} {n : Nat} (hn : M 710 75 = nI n) (hn20 : n ≤ 20) (x : Int32) : Ct l yX9_wouldAppeal wsX9_wouldAppeal rmX9_wouldAppeal (fun B => [.ref (B + 709), .int x]) M (fun _ v u => ¬ (isN n x) ∧ v = some (.int (0)) ∧ u = thM M 1 ∨ ∃ e, e < n ∧ x = nI e ∧ v = some (.int (if 0 < M 710 (132 + e) then 3 else M 710 (152 + e))) ∧ u = thM M 0) := by
  refine Ct.ofI (own := RX9) (by decide +kernel) rfl rfl (fun B => Nat.le_of_ble_eq_true rfl) ?_
  intro pp ee ss mm aa bb me c9 DD ca B Tl AA QQ F K
  show G pp l ee rmX9_wouldAppeal ss mm aa bb me c9 QQ DD ca B Tl AA 2 0 0 M 0 [(0, .ref (B + 709)), (1, .int x)] []
  refine g_aload_n F dX9_wouldAppeal_0 rfl 0 rfl ?_
  refine g_iconst F (v := 0) dX9_wouldAppeal_1 (by decide) ?_
  refine gp9_thrown F iX9_wouldAppeal_9 r709 (by decide +kernel) dX9_wouldAppeal_2 ?_
  refine g_mem (show va_up M 709 (upd (M 709) 0 0) = thM M 0 from rfl) ?_
  refine g_aload_n F dX9_wouldAppeal_5 rfl 0 rfl ?_
  refine g_iload_n F dX9_wouldAppeal_6 rfl 1 rfl ?_
  refine g_callV F (kX9_isNotice l (M := (thM M 0)) _) (cwV 1 F.1.2.2.2.2 gX9_wouldAppeal_X9_isNotice rfl rfl rfl (by decide +kernel) ⟨Nat.le_of_ble_eq_true rfl, Nat.le_of_ble_eq_true rfl⟩) r709 (by decide) rfl rfl rfl rfl (Nat.le_of_ble_eq_true rfl) dX9_wouldAppeal_7 ⟨Nat.le_of_ble_eq_true rfl, Nat.le_of_ble_eq_true rfl⟩ (g_det ?_)
  refine g_ifB_ne F 19 dX9_wouldAppeal_10 (by decide) (fun h1 => ?_) (fun h1 => ?_)
  · have hN1 : isN n x := (isN_iff hn).mp h1
    obtain ⟨e, he, rfl⟩ := ofe hn20 hN1
    refine g_aload_n F dX9_wouldAppeal_19 rfl 0 rfl ?_
    refine gg9_state F iX9_wouldAppeal_9 r709 (by decide +kernel) dX9_wouldAppeal_20 ?_
    refine g_sipush F (v := 132) dX9_wouldAppeal_23 (by decide +kernel) ?_
    refine g_iload_n F dX9_wouldAppeal_26 rfl 1 rfl ?_
    refine g_iadd F dX9_wouldAppeal_27 ?_
    refine g_top (nI_add (132) (e)) ?_
    refine g_iaload (r := 710) F a710 ((132 + e)) rfl (by omega) (by decide) dX9_wouldAppeal_28 ?_
    refine g_if_le F 36 dX9_wouldAppeal_29 (by decide) (fun h2 => ?_) (fun h2 => ?_)
    · refine g_aload_n F dX9_wouldAppeal_36 rfl 0 rfl ?_
      refine gg9_state F iX9_wouldAppeal_9 r709 (by decide +kernel) dX9_wouldAppeal_37 ?_
      refine g_sipush F (v := 152) dX9_wouldAppeal_40 (by decide +kernel) ?_
      refine g_iload_n F dX9_wouldAppeal_43 rfl 1 rfl ?_
      refine g_iadd F dX9_wouldAppeal_44 ?_
      refine g_top (nI_add (152) (e)) ?_
      refine g_iaload (r := 710) F a710 ((152 + e)) rfl (by omega) (by decide) dX9_wouldAppeal_45 ?_
      exact K _ _ _ _ dX9_wouldAppeal_46 rfl (by first | exact Or.inl ⟨(fun z => h1 ((isN_iff hn).mpr z)), rfl, rfl⟩ | exact Or.inr ⟨e, he, rfl, congrArg (fun q => some (Value.int q)) (if_neg (Int32.not_lt.mpr h2)).symm, rfl⟩ | exact Or.inr ⟨e, he, rfl, congrArg (fun q => some (Value.int q)) (if_pos (Int32.not_le.mp h2)).symm, rfl⟩)
    · refine g_iconst F (v := 3) dX9_wouldAppeal_32 (by decide) ?_
      refine g_goto F 46 dX9_wouldAppeal_33 (by decide) ?_
      exact K _ _ _ _ dX9_wouldAppeal_46 rfl (by first | exact Or.inl ⟨(fun z => h1 ((isN_iff hn).mpr z)), rfl, rfl⟩ | exact Or.inr ⟨e, he, rfl, congrArg (fun q => some (Value.int q)) (if_neg (Int32.not_lt.mpr h2)).symm, rfl⟩ | exact Or.inr ⟨e, he, rfl, congrArg (fun q => some (Value.int q)) (if_pos (Int32.not_le.mp h2)).symm, rfl⟩)
  · refine g_aload_n F dX9_wouldAppeal_13 rfl 0 rfl ?_
    refine g_iconst F (v := 1) dX9_wouldAppeal_14 (by decide) ?_
    refine g_callV F (kX9_fails l _) (cwV 1 F.1.2.2.2.2 gX9_wouldAppeal_X9_fails rfl rfl rfl (by decide +kernel) ⟨Nat.le_of_ble_eq_true rfl, Nat.le_of_ble_eq_true rfl⟩) r709 (by decide) rfl rfl rfl rfl (Nat.le_of_ble_eq_true rfl) dX9_wouldAppeal_15 ⟨Nat.le_of_ble_eq_true rfl, Nat.le_of_ble_eq_true rfl⟩ (g_det ?_)
    refine g_mem (thM_2 M 0 _) ?_
    exact K _ _ _ _ dX9_wouldAppeal_18 rfl (by first | exact Or.inl ⟨(fun z => h1 ((isN_iff hn).mpr z)), rfl, rfl⟩ | exact Or.inr ⟨e, he, rfl, congrArg (fun q => some (Value.int q)) (if_neg (Int32.not_lt.mpr h2)).symm, rfl⟩ | exact Or.inr ⟨e, he, rfl, congrArg (fun q => some (Value.int q)) (if_pos (Int32.not_le.mp h2)).symm, rfl⟩)

abbrev rmX9_stands : Room := { frames := 2, cells := 0, slots := 0, locals := 43 }
theorem iX9_stands_9 : ∀ w ∈ u_ws RX9 TX9 15, w ∈ wsX9_stands := by decide +kernel
set_option maxHeartbeats 200000 in
set_option maxRecDepth 100000 in
theorem kX9_stands (l : Launch) {M : Mm} {n : Nat} (hn : M 710 75 = nI n) (hn20 : n ≤ 20) (x : Int32) : Ct l yX9_stands wsX9_stands rmX9_stands (fun B => [.ref (B + 709), .int x]) M (fun _ v u => ¬ (isN n x) ∧ v = some (.int (0)) ∧ u = thM M 1 ∨ ∃ e, e < n ∧ x = nI e ∧ v = some (.int (if M 710 (132 + e) < 2 then 1 else 0)) ∧ u = thM M 0) := by
  refine Ct.ofI (own := RX9) (by decide +kernel) rfl rfl (fun B => Nat.le_of_ble_eq_true rfl) ?_
  intro pp ee ss mm aa bb me c9 DD ca B Tl AA QQ F K
  show G pp l ee rmX9_stands ss mm aa bb me c9 QQ DD ca B Tl AA 2 0 0 M 0 [(0, .ref (B + 709)), (1, .int x)] []
  refine g_aload_n F dX9_stands_0 rfl 0 rfl ?_
  refine g_aload_n F dX9_stands_1 rfl 0 rfl ?_
  refine g_iload_n F dX9_stands_2 rfl 1 rfl ?_
  refine g_callV F (kX9_isNotice l _) (cwV 1 F.1.2.2.2.2 gX9_stands_X9_isNotice rfl rfl rfl (by decide +kernel) ⟨Nat.le_of_ble_eq_true rfl, Nat.le_of_ble_eq_true rfl⟩) r709 (by decide) rfl rfl rfl rfl (Nat.le_of_ble_eq_true rfl) dX9_stands_3 ⟨Nat.le_of_ble_eq_true rfl, Nat.le_of_ble_eq_true rfl⟩ (g_det ?_)
  refine g_ifB_eq F 13 dX9_stands_6 (by decide) (fun h1 => ?_) (fun h1 => ?_)
  · refine g_iconst F (v := 1) dX9_stands_13 (by decide) ?_
    refine gp9_thrown F iX9_stands_9 r709 (by decide +kernel) dX9_stands_14 ?_
    refine g_mem (show va_up M 709 (upd (M 709) 0 _) = thM M _ from rfl) ?_
    refine g_aload_n F dX9_stands_17 rfl 0 rfl ?_
    refine gg9_thrown F iX9_stands_9 r709 (by decide +kernel) dX9_stands_18 ?_
    refine g_top (y := 1) (by rfl) ?_
    refine g_if_ne F 42 dX9_stands_21 (by decide) (fun h9 => ?_) (fun h9 => ?_)
    · refine g_iconst F (v := 0) dX9_stands_42 (by decide) ?_
      exact K _ _ _ _ dX9_stands_43 (by first | exact (bit_z bit_0).1 | exact (bit_z bit_1).1) (by first | exact Or.inl ⟨(fun z => h1 ((isN_iff hn).mpr z)), rfl, rfl⟩ | exact Or.inr ⟨e, he, rfl, congrArg (fun q => some (Value.int q)) (if_neg (Int32.not_lt.mpr h2)).symm, rfl⟩ | exact Or.inr ⟨e, he, rfl, congrArg (fun q => some (Value.int q)) (if_pos (Int32.not_le.mp h2)).symm, rfl⟩)
    · exact absurd h9 (by decide)
  · have hN1 : isN n x := (isN_iff hn).mp h1
    obtain ⟨e, he, rfl⟩ := ofe hn20 hN1
    refine g_iconst F (v := 0) dX9_stands_9 (by decide) ?_
    refine g_goto F 14 dX9_stands_10 (by decide) ?_
    refine gp9_thrown F iX9_stands_9 r709 (by decide +kernel) dX9_stands_14 ?_
    refine g_mem (show va_up M 709 (upd (M 709) 0 _) = thM M _ from rfl) ?_
    refine g_aload_n F dX9_stands_17 rfl 0 rfl ?_
    refine gg9_thrown F iX9_stands_9 r709 (by decide +kernel) dX9_stands_18 ?_
    refine g_top (y := 0) (by rfl) ?_
    refine g_if_ne F 42 dX9_stands_21 (by decide) (fun h9 => ?_) (fun h9 => ?_)
    · exact absurd rfl h9
    · refine g_aload_n F dX9_stands_24 rfl 0 rfl ?_
      refine gg9_state F iX9_stands_9 r709 (by decide +kernel) dX9_stands_25 ?_
      refine g_sipush F (v := 132) dX9_stands_28 (by decide +kernel) ?_
      refine g_iload_n F dX9_stands_31 rfl 1 rfl ?_
      refine g_iadd F dX9_stands_32 ?_
      refine g_top (nI_add (132) (e)) ?_
      refine g_iaload (r := 710) F a710 ((132 + e)) rfl (by omega) (by decide) dX9_stands_33 ?_
      refine g_iconst F (v := 2) dX9_stands_34 (by decide) ?_
      refine g_icmp_ge F 42 dX9_stands_35 (by decide) (fun h2 => ?_) (fun h2 => ?_)
      · refine g_iconst F (v := 0) dX9_stands_42 (by decide) ?_
        exact K _ _ _ _ dX9_stands_43 (by first | exact (bit_z bit_0).1 | exact (bit_z bit_1).1) (by first | exact Or.inl ⟨(fun z => h1 ((isN_iff hn).mpr z)), rfl, rfl⟩ | exact Or.inr ⟨e, he, rfl, congrArg (fun q => some (Value.int q)) (if_neg (Int32.not_lt.mpr h2)).symm, rfl⟩ | exact Or.inr ⟨e, he, rfl, congrArg (fun q => some (Value.int q)) (if_pos (Int32.not_le.mp h2)).symm, rfl⟩)
      · refine g_iconst F (v := 1) dX9_stands_38 (by decide) ?_
        refine g_goto F 43 dX9_stands_39 (by decide) ?_
        exact K _ _ _ _ dX9_stands_43 (by first | exact (bit_z bit_0).1 | exact (bit_z bit_1).1) (by first | exact Or.inl ⟨(fun z => h1 ((isN_iff hn).mpr z)), rfl, rfl⟩ | exact Or.inr ⟨e, he, rfl, congrArg (fun q => some (Value.int q)) (if_neg (Int32.not_lt.mpr h2)).symm, rfl⟩ | exact Or.inr ⟨e, he, rfl, congrArg (fun q => some (Value.int q)) (if_pos (Int32.not_le.mp h2)).symm, rfl⟩)

abbrev rmX9_fines : Room := { frames := 0, cells := 0, slots := 0, locals := 0 }
theorem iX9_fines_9 : ∀ w ∈ u_ws RX9 TX9 15, w ∈ wsX9_fines := by decide +kernel
set_option maxHeartbeats 200000 in
set_option maxRecDepth 100000 in
theorem kX9_fines (l : Launch) {M : Mm} {n : Nat} (hn : M 710 75 = nI n) (hn20 : n ≤ 20) (x : Int32) : Ct l yX9_fines wsX9_fines rmX9_fines (fun B => [.ref (B + 709), .int x]) M (fun _ v u => v = some (.int (finR (M 710) x n)) ∧ u = M) := by
  refine Ct.ofI (own := RX9) (by decide +kernel) rfl rfl (fun B => Nat.le_of_ble_eq_true rfl) ?_
  intro pp ee ss mm aa bb me c9 DD ca B Tl AA QQ F K
  show G pp l ee rmX9_fines ss mm aa bb me c9 QQ DD ca B Tl AA 4 0 0 M 0 [(0, .ref (B + 709)), (1, .int x)] []
  refine g_iconst F (v := 0) dX9_fines_0 (by decide) ?_
  refine g_istore_n F (lv2 := [(2, _), (0, _), (1, _)]) dX9_fines_1 rfl (by decide) rfl ?_
  refine g_iconst F (v := 0) dX9_fines_2 (by decide) ?_
  refine g_istore_n F (lv2 := [(3, _), (2, _), (0, _), (1, _)]) dX9_fines_3 rfl (by decide) rfl ?_
  have LP : ∀ (ni i : Nat), i + ni = n → G pp l ee rmX9_fines ss mm aa bb me c9 QQ DD ca B Tl AA 4 0 0 (M) 4 [(3, .int (nI i)), (0, .ref (B + 709)), (1, .int x), (2, .int (finR (M 710) x i))] [] := by
    intro ni
    induction ni with
    | zero =>
      intro i hni
      refine g_iload_n F dX9_fines_4 rfl 0 rfl ?_
      refine g_aload_n F dX9_fines_5 rfl 1 rfl ?_
      refine gg9_state F iX9_fines_9 r709 (by decide +kernel) dX9_fines_6 ?_
      refine g_bipush F (v := 75) dX9_fines_9 (by decide +kernel) ?_
      refine g_iaload (r := 710) F a710 (75) rfl (by omega) (by decide) dX9_fines_11 ?_
      refine g_top hn ?_
      refine g_icmpN_ge F 64 dX9_fines_12 (by decide) (i) (n) rfl rfl (by omega) (by omega) (fun hci => ?_) (fun hci => ?_)
      · obtain rfl : n = i := by omega
        refine g_iload_n F dX9_fines_64 rfl 3 rfl ?_
        exact K _ _ _ _ dX9_fines_65 rfl ⟨rfl, rfl⟩
      · exact absurd hci (by omega)
    | succ ni ihi =>
      intro i hni
      refine g_iload_n F dX9_fines_4 rfl 0 rfl ?_
      refine g_aload_n F dX9_fines_5 rfl 1 rfl ?_
      refine gg9_state F iX9_fines_9 r709 (by decide +kernel) dX9_fines_6 ?_
      refine g_bipush F (v := 75) dX9_fines_9 (by decide +kernel) ?_
      refine g_iaload (r := 710) F a710 (75) rfl (by omega) (by decide) dX9_fines_11 ?_
      refine g_top hn ?_
      refine g_icmpN_ge F 64 dX9_fines_12 (by decide) (i) (n) rfl rfl (by omega) (by omega) (fun hci => ?_) (fun hci => ?_)
      · exact absurd hci (by omega)
      · refine g_iload_n F dX9_fines_15 rfl 3 rfl ?_
        refine g_aload_n F dX9_fines_16 rfl 1 rfl ?_
        refine gg9_state F iX9_fines_9 r709 (by decide +kernel) dX9_fines_17 ?_
        refine g_bipush F (v := 92) dX9_fines_20 (by decide +kernel) ?_
        refine g_iload_n F dX9_fines_22 rfl 0 rfl ?_
        refine g_iadd F dX9_fines_23 ?_
        refine g_top (nI_add (92) (i)) ?_
        refine g_iaload (r := 710) F a710 ((92 + i)) rfl (by omega) (by decide) dX9_fines_24 ?_
        refine g_iload_n F dX9_fines_25 rfl 2 rfl ?_
        refine g_icmp_ne F 55 dX9_fines_26 (by decide) (fun h2 => ?_) (fun h2 => ?_)
        · refine g_iconst F (v := 0) dX9_fines_55 (by decide) ?_
          refine g_iadd F dX9_fines_56 ?_
          refine g_istore_n F (lv2 := [(2, _), (3, _), (0, _), (1, _)]) dX9_fines_57 rfl (by decide) rfl ?_
          refine g_iinc F (lv2 := [(3, _), (2, _), (0, _), (1, _)]) dX9_fines_58 1 rfl (nI_1 _) (by decide) rfl ?_
          refine g_goto F 4 dX9_fines_61 (by decide) ?_
          refine g_lv (lv2 := [(3, _), (0, _), (1, _), (2, _)]) [0, 2, 3, 1] rfl ?_
          exact g_is rfl (by rw [finR]; first | (rw [if_neg (fun z => h2 z.1)]; first | done | rfl) | (rw [if_neg (fun z => Int32.not_lt.mpr h3 z.2)]; first | done | rfl) | (rw [if_pos (And.intro (Decidable.not_not.mp h2) (Int32.not_le.mp h3))]; first | done | rfl) | (rw [if_pos (And.intro h2 (Int32.not_le.mp h3))]; first | done | rfl)) (ihi (i + 1) (by omega))
        · refine g_aload_n F dX9_fines_29 rfl 1 rfl ?_
          refine gg9_state F iX9_fines_9 r709 (by decide +kernel) dX9_fines_30 ?_
          refine g_sipush F (v := 132) dX9_fines_33 (by decide +kernel) ?_
          refine g_iload_n F dX9_fines_36 rfl 0 rfl ?_
          refine g_iadd F dX9_fines_37 ?_
          refine g_top (nI_add (132) (i)) ?_
          refine g_iaload (r := 710) F a710 ((132 + i)) rfl (by omega) (by decide) dX9_fines_38 ?_
          refine g_iconst F (v := 2) dX9_fines_39 (by decide) ?_
          refine g_icmp_ge F 55 dX9_fines_40 (by decide) (fun h3 => ?_) (fun h3 => ?_)
          · refine g_iconst F (v := 0) dX9_fines_55 (by decide) ?_
            refine g_iadd F dX9_fines_56 ?_
            refine g_istore_n F (lv2 := [(2, _), (3, _), (0, _), (1, _)]) dX9_fines_57 rfl (by decide) rfl ?_
            refine g_iinc F (lv2 := [(3, _), (2, _), (0, _), (1, _)]) dX9_fines_58 1 rfl (nI_1 _) (by decide) rfl ?_
            refine g_goto F 4 dX9_fines_61 (by decide) ?_
            refine g_lv (lv2 := [(3, _), (0, _), (1, _), (2, _)]) [0, 2, 3, 1] rfl ?_
            exact g_is rfl (by rw [finR]; first | (rw [if_neg (fun z => h2 z.1)]; first | done | rfl) | (rw [if_neg (fun z => Int32.not_lt.mpr h3 z.2)]; first | done | rfl) | (rw [if_pos (And.intro (Decidable.not_not.mp h2) (Int32.not_le.mp h3))]; first | done | rfl) | (rw [if_pos (And.intro h2 (Int32.not_le.mp h3))]; first | done | rfl)) (ihi (i + 1) (by omega))
          · refine g_aload_n F dX9_fines_43 rfl 1 rfl ?_
            refine gg9_state F iX9_fines_9 r709 (by decide +kernel) dX9_fines_44 ?_
            refine g_bipush F (v := 112) dX9_fines_47 (by decide +kernel) ?_
            refine g_iload_n F dX9_fines_49 rfl 0 rfl ?_
            refine g_iadd F dX9_fines_50 ?_
            refine g_top (nI_add (112) (i)) ?_
            refine g_iaload (r := 710) F a710 ((112 + i)) rfl (by omega) (by decide) dX9_fines_51 ?_
            refine g_goto F 56 dX9_fines_52 (by decide) ?_
            refine g_iadd F dX9_fines_56 ?_
            refine g_istore_n F (lv2 := [(2, _), (3, _), (0, _), (1, _)]) dX9_fines_57 rfl (by decide) rfl ?_
            refine g_iinc F (lv2 := [(3, _), (2, _), (0, _), (1, _)]) dX9_fines_58 1 rfl (nI_1 _) (by decide) rfl ?_
            refine g_goto F 4 dX9_fines_61 (by decide) ?_
            refine g_lv (lv2 := [(3, _), (0, _), (1, _), (2, _)]) [0, 2, 3, 1] rfl ?_
            exact g_is rfl (by rw [finR]; first | (rw [if_neg (fun z => h2 z.1)]; first | done | rfl) | (rw [if_neg (fun z => Int32.not_lt.mpr h3 z.2)]; first | done | rfl) | (rw [if_pos (And.intro (Decidable.not_not.mp h2) (Int32.not_le.mp h3))]; first | done | rfl) | (rw [if_pos (And.intro h2 (Int32.not_le.mp h3))]; first | done | rfl)) (ihi (i + 1) (by omega))
  refine g_lv (lv2 := [(3, _), (0, _), (1, _), (2, _)]) [0, 2, 3, 1] rfl ?_
  exact g_is rfl rfl (LP (n - 0) (0) (by omega))

abbrev rmX9_finesOf : Room := { frames := 2, cells := 0, slots := 0, locals := 42 }
theorem iX9_finesOf_9 : ∀ w ∈ u_ws RX9 TX9 15, w ∈ wsX9_finesOf := by decide +kernel
set_option maxHeartbeats 200000 in
set_option maxRecDepth 100000 in
theorem kX9_finesOf (l : Launch) {M : Mm} {n : Nat} (hn : M 710 75 = nI n) (hn20 : n ≤ 20) (x z : Int32) : Ct l yX9_finesOf wsX9_finesOf rmX9_finesOf (fun B => [.ref (B + 709), .int x, .int z]) M (fun _ v u => ¬ (0 ≤ x ∧ x ≤ 7) ∧ v = some (.int (0)) ∧ u = thM M 1 ∨ ∃ c, c < 8 ∧ x = nI c ∧ v = some (.int (if z = 0 then finR (M 710) (nI c) n else M 710 (76 + c) - M 710 (84 + c))) ∧ u = thM M 0) := by
  refine Ct.ofI (own := RX9) (by decide +kernel) rfl rfl (fun B => Nat.le_of_ble_eq_true rfl) ?_
  intro pp ee ss mm aa bb me c9 DD ca B Tl AA QQ F K
  show G pp l ee rmX9_finesOf ss mm aa bb me c9 QQ DD ca B Tl AA 3 0 0 M 0 [(0, .ref (B + 709)), (1, .int x), (2, .int z)] []
  refine g_aload_n F dX9_finesOf_0 rfl 0 rfl ?_
  refine g_iconst F (v := 0) dX9_finesOf_1 (by decide) ?_
  refine gp9_thrown F iX9_finesOf_9 r709 (by decide +kernel) dX9_finesOf_2 ?_
  refine g_mem (show va_up M 709 (upd (M 709) 0 0) = thM M 0 from rfl) ?_
  refine g_iload_n F dX9_finesOf_5 rfl 1 rfl ?_
  refine g_callS F (kX9_isChimney l _) (va_cwS 1 F.1.2.2.2.2 gX9_finesOf_X9_isChimney rfl rfl rfl (by decide +kernel) ⟨Nat.le_of_ble_eq_true rfl, Nat.le_of_ble_eq_true rfl⟩) rfl rfl rfl (Nat.le_of_ble_eq_true rfl) dX9_finesOf_6 ⟨Nat.le_of_ble_eq_true rfl, Nat.le_of_ble_eq_true rfl⟩ (g_det ?_)
  refine g_ifB_ne F 18 dX9_finesOf_9 (by decide) (fun h1 => ?_) (fun h1 => ?_)
  · obtain ⟨c, hc_, rfl⟩ := ofk (n := 7) (by decide) h1
    have hc : c < 8 := by omega
    refine g_iload_n F dX9_finesOf_18 rfl 2 rfl ?_
    refine g_if_eq F 44 dX9_finesOf_19 (by decide) (fun h2 => ?_) (fun h2 => ?_)
    · refine g_aload_n F dX9_finesOf_44 rfl 0 rfl ?_
      refine g_iload_n F dX9_finesOf_45 rfl 1 rfl ?_
      refine g_callV F (kX9_fines l (M := (thM M 0)) (n := n) hn hn20 _) (cwV 1 F.1.2.2.2.2 gX9_finesOf_X9_fines rfl rfl rfl (by decide +kernel) ⟨Nat.le_of_ble_eq_true rfl, Nat.le_of_ble_eq_true rfl⟩) r709 (by decide) rfl rfl rfl rfl (Nat.le_of_ble_eq_true rfl) dX9_finesOf_46 ⟨Nat.le_of_ble_eq_true rfl, Nat.le_of_ble_eq_true rfl⟩ (g_det ?_)
      refine g_top (show finR (thM M 0 710) _ n = finR (M 710) _ n from rfl) ?_
      exact K _ _ _ _ dX9_finesOf_49 rfl (by first | exact Or.inl ⟨h1, rfl, rfl⟩ | exact Or.inr ⟨c, hc, rfl, congrArg (fun q => some (Value.int q)) (if_pos h2).symm, rfl⟩ | exact Or.inr ⟨c, hc, rfl, congrArg (fun q => some (Value.int q)) (if_neg h2).symm, rfl⟩)
    · refine g_aload_n F dX9_finesOf_22 rfl 0 rfl ?_
      refine gg9_state F iX9_finesOf_9 r709 (by decide +kernel) dX9_finesOf_23 ?_
      refine g_bipush F (v := 76) dX9_finesOf_26 (by decide +kernel) ?_
      refine g_iload_n F dX9_finesOf_28 rfl 1 rfl ?_
      refine g_iadd F dX9_finesOf_29 ?_
      refine g_top (nI_add (76) (c)) ?_
      refine g_iaload (r := 710) F a710 ((76 + c)) rfl (by omega) (by decide) dX9_finesOf_30 ?_
      refine g_aload_n F dX9_finesOf_31 rfl 0 rfl ?_
      refine gg9_state F iX9_finesOf_9 r709 (by decide +kernel) dX9_finesOf_32 ?_
      refine g_bipush F (v := 84) dX9_finesOf_35 (by decide +kernel) ?_
      refine g_iload_n F dX9_finesOf_37 rfl 1 rfl ?_
      refine g_iadd F dX9_finesOf_38 ?_
      refine g_top (nI_add (84) (c)) ?_
      refine g_iaload (r := 710) F a710 ((84 + c)) rfl (by omega) (by decide) dX9_finesOf_39 ?_
      refine g_isub F dX9_finesOf_40 ?_
      refine g_goto F 49 dX9_finesOf_41 (by decide) ?_
      exact K _ _ _ _ dX9_finesOf_49 rfl (by first | exact Or.inl ⟨h1, rfl, rfl⟩ | exact Or.inr ⟨c, hc, rfl, congrArg (fun q => some (Value.int q)) (if_pos h2).symm, rfl⟩ | exact Or.inr ⟨c, hc, rfl, congrArg (fun q => some (Value.int q)) (if_neg h2).symm, rfl⟩)
  · refine g_aload_n F dX9_finesOf_12 rfl 0 rfl ?_
    refine g_iconst F (v := 1) dX9_finesOf_13 (by decide) ?_
    refine g_callV F (kX9_fails l _) (cwV 1 F.1.2.2.2.2 gX9_finesOf_X9_fails rfl rfl rfl (by decide +kernel) ⟨Nat.le_of_ble_eq_true rfl, Nat.le_of_ble_eq_true rfl⟩) r709 (by decide) rfl rfl rfl rfl (Nat.le_of_ble_eq_true rfl) dX9_finesOf_14 ⟨Nat.le_of_ble_eq_true rfl, Nat.le_of_ble_eq_true rfl⟩ (g_det ?_)
    refine g_mem (thM_2 M 0 _) ?_
    exact K _ _ _ _ dX9_finesOf_17 rfl (by first | exact Or.inl ⟨h1, rfl, rfl⟩ | exact Or.inr ⟨c, hc, rfl, congrArg (fun q => some (Value.int q)) (if_pos h2).symm, rfl⟩ | exact Or.inr ⟨c, hc, rfl, congrArg (fun q => some (Value.int q)) (if_neg h2).symm, rfl⟩)

abbrev rmX9_worstChimney : Room := { frames := 1, cells := 0, slots := 0, locals := 23 }
theorem iX9_worstChimney_9 : ∀ w ∈ u_ws RX9 TX9 15, w ∈ wsX9_worstChimney := by decide +kernel
set_option maxHeartbeats 200000 in
set_option maxRecDepth 100000 in
theorem kX9_worstChimney (l : Launch) {M : Mm} {n : Nat} (hn : M 710 75 = nI n) (hn20 : n ≤ 20)  : Ct l yX9_worstChimney wsX9_worstChimney rmX9_worstChimney (fun B => [.ref (B + 709)]) M (fun _ v u => v = some (.int ((wcR (M 710) n 8).1)) ∧ u = thM M 0) := by
  refine Ct.ofI (own := RX9) (by decide +kernel) rfl rfl (fun B => Nat.le_of_ble_eq_true rfl) ?_
  intro pp ee ss mm aa bb me c9 DD ca B Tl AA QQ F K
  show G pp l ee rmX9_worstChimney ss mm aa bb me c9 QQ DD ca B Tl AA 5 0 0 M 0 [(0, .ref (B + 709))] []
  refine g_aload_n F dX9_worstChimney_0 rfl 0 rfl ?_
  refine g_iconst F (v := 0) dX9_worstChimney_1 (by decide) ?_
  refine gp9_thrown F iX9_worstChimney_9 r709 (by decide +kernel) dX9_worstChimney_2 ?_
  refine g_mem (show va_up M 709 (upd (M 709) 0 0) = thM M 0 from rfl) ?_
  refine g_iconst F (v := -1) dX9_worstChimney_5 (by decide) ?_
  refine g_istore_n F (lv2 := [(1, _), (0, _)]) dX9_worstChimney_6 rfl (by decide) rfl ?_
  refine g_iconst F (v := 0) dX9_worstChimney_7 (by decide) ?_
  refine g_istore_n F (lv2 := [(2, _), (1, _), (0, _)]) dX9_worstChimney_8 rfl (by decide) rfl ?_
  refine g_iconst F (v := 0) dX9_worstChimney_9 (by decide) ?_
  refine g_istore_n F (lv2 := [(3, _), (2, _), (1, _), (0, _)]) dX9_worstChimney_10 rfl (by decide) rfl ?_
  have LP : ∀ (ni i : Nat), i + ni = 8 → G pp l ee rmX9_worstChimney ss mm aa bb me c9 QQ DD ca B Tl AA 5 0 0 (thM M 0) 11 [(3, .int (nI i)), (0, .ref (B + 709)), (1, .int (wcR (M 710) n i).1), (2, .int (wcR (M 710) n i).2)] [] := by
    intro ni
    induction ni with
    | zero =>
      intro i hni
      refine g_iload_n F dX9_worstChimney_11 rfl 0 rfl ?_
      refine g_bipush F (v := 8) dX9_worstChimney_12 (by decide +kernel) ?_
      refine g_icmpN_ge F 55 dX9_worstChimney_14 (by decide) (i) (8) rfl rfl (by omega) (by omega) (fun hci => ?_) (fun hci => ?_)
      · obtain rfl : i = 8 := by omega
        refine g_iload_n F dX9_worstChimney_55 rfl 2 rfl ?_
        exact K _ _ _ _ dX9_worstChimney_56 rfl ⟨rfl, rfl⟩
      · exact absurd hci (by omega)
    | succ ni ihi =>
      intro i hni
      refine g_iload_n F dX9_worstChimney_11 rfl 0 rfl ?_
      refine g_bipush F (v := 8) dX9_worstChimney_12 (by decide +kernel) ?_
      refine g_icmpN_ge F 55 dX9_worstChimney_14 (by decide) (i) (8) rfl rfl (by omega) (by omega) (fun hci => ?_) (fun hci => ?_)
      · exact absurd hci (by omega)
      · refine g_aload_n F dX9_worstChimney_17 rfl 1 rfl ?_
        refine g_iload_n F dX9_worstChimney_18 rfl 0 rfl ?_
        refine g_callV F (kX9_fines l (M := (thM M 0)) (n := n) hn hn20 _) (cwV 1 F.1.2.2.2.2 gX9_worstChimney_X9_fines rfl rfl rfl (by decide +kernel) ⟨Nat.le_of_ble_eq_true rfl, Nat.le_of_ble_eq_true rfl⟩) r709 (by decide) rfl rfl rfl rfl (Nat.le_of_ble_eq_true rfl) dX9_worstChimney_19 ⟨Nat.le_of_ble_eq_true rfl, Nat.le_of_ble_eq_true rfl⟩ (g_det ?_)
        refine g_top (show finR (thM M 0 710) _ n = finR (M 710) _ n from rfl) ?_
        refine g_istore F (lv2 := [(4, _), (3, _), (0, _), (1, _), (2, _)]) dX9_worstChimney_22 (by decide) rfl ?_
        refine g_iload F dX9_worstChimney_24 0 rfl ?_
        refine g_iload_n F dX9_worstChimney_26 rfl 4 rfl ?_
        refine g_icmp_le F 34 dX9_worstChimney_27 (by decide) (fun h2 => ?_) (fun h2 => ?_)
        · refine g_iload_n F dX9_worstChimney_34 rfl 3 rfl ?_
          refine g_istore_n F (lv2 := [(1, _), (4, _), (3, _), (0, _), (2, _)]) dX9_worstChimney_35 rfl (by decide) rfl ?_
          refine g_iload F dX9_worstChimney_36 1 rfl ?_
          refine g_iload_n F dX9_worstChimney_38 rfl 4 rfl ?_
          refine g_icmp_le F 47 dX9_worstChimney_39 (by decide) (fun h3 => ?_) (fun h3 => ?_)
          · refine g_iload_n F dX9_worstChimney_47 rfl 4 rfl ?_
            refine g_istore_n F (lv2 := [(2, _), (1, _), (4, _), (3, _), (0, _)]) dX9_worstChimney_48 rfl (by decide) rfl ?_
            refine g_iinc F (lv2 := [(3, _), (2, _), (1, _), (4, _), (0, _)]) dX9_worstChimney_49 3 rfl (nI_1 _) (by decide) rfl ?_
            refine g_goto F 11 dX9_worstChimney_52 (by decide) ?_
            refine g_lv (lv2 := [(3, _), (0, _), (1, _), (2, _)]) [0, 4, 2, 1] rfl ?_
            exact g_is rfl (by first | exact absurd h2 h3 | exact absurd h3 h2 | (rw [wcR, if_neg (Int32.not_lt.mpr h2)]; first | done | rfl) | (rw [wcR, if_pos (Int32.not_le.mp h2)]; first | done | rfl)) (ihi (i + 1) (by omega))
          · refine g_iload F dX9_worstChimney_42 1 rfl ?_
            refine g_goto F 48 dX9_worstChimney_44 (by decide) ?_
            refine g_istore_n F (lv2 := [(2, _), (1, _), (4, _), (3, _), (0, _)]) dX9_worstChimney_48 rfl (by decide) rfl ?_
            refine g_iinc F (lv2 := [(3, _), (2, _), (1, _), (4, _), (0, _)]) dX9_worstChimney_49 3 rfl (nI_1 _) (by decide) rfl ?_
            refine g_goto F 11 dX9_worstChimney_52 (by decide) ?_
            refine g_lv (lv2 := [(3, _), (0, _), (1, _), (2, _)]) [0, 4, 2, 1] rfl ?_
            exact g_is rfl (by first | exact absurd h2 h3 | exact absurd h3 h2 | (rw [wcR, if_neg (Int32.not_lt.mpr h2)]; first | done | rfl) | (rw [wcR, if_pos (Int32.not_le.mp h2)]; first | done | rfl)) (ihi (i + 1) (by omega))
        · refine g_iload_n F dX9_worstChimney_30 rfl 1 rfl ?_
          refine g_goto F 35 dX9_worstChimney_31 (by decide) ?_
          refine g_istore_n F (lv2 := [(1, _), (4, _), (3, _), (0, _), (2, _)]) dX9_worstChimney_35 rfl (by decide) rfl ?_
          refine g_iload F dX9_worstChimney_36 1 rfl ?_
          refine g_iload_n F dX9_worstChimney_38 rfl 4 rfl ?_
          refine g_icmp_le F 47 dX9_worstChimney_39 (by decide) (fun h3 => ?_) (fun h3 => ?_)
          · refine g_iload_n F dX9_worstChimney_47 rfl 4 rfl ?_
            refine g_istore_n F (lv2 := [(2, _), (1, _), (4, _), (3, _), (0, _)]) dX9_worstChimney_48 rfl (by decide) rfl ?_
            refine g_iinc F (lv2 := [(3, _), (2, _), (1, _), (4, _), (0, _)]) dX9_worstChimney_49 3 rfl (nI_1 _) (by decide) rfl ?_
            refine g_goto F 11 dX9_worstChimney_52 (by decide) ?_
            refine g_lv (lv2 := [(3, _), (0, _), (1, _), (2, _)]) [0, 4, 2, 1] rfl ?_
            exact g_is rfl (by first | exact absurd h2 h3 | exact absurd h3 h2 | (rw [wcR, if_neg (Int32.not_lt.mpr h2)]; first | done | rfl) | (rw [wcR, if_pos (Int32.not_le.mp h2)]; first | done | rfl)) (ihi (i + 1) (by omega))
          · refine g_iload F dX9_worstChimney_42 1 rfl ?_
            refine g_goto F 48 dX9_worstChimney_44 (by decide) ?_
            refine g_istore_n F (lv2 := [(2, _), (1, _), (4, _), (3, _), (0, _)]) dX9_worstChimney_48 rfl (by decide) rfl ?_
            refine g_iinc F (lv2 := [(3, _), (2, _), (1, _), (4, _), (0, _)]) dX9_worstChimney_49 3 rfl (nI_1 _) (by decide) rfl ?_
            refine g_goto F 11 dX9_worstChimney_52 (by decide) ?_
            refine g_lv (lv2 := [(3, _), (0, _), (1, _), (2, _)]) [0, 4, 2, 1] rfl ?_
            exact g_is rfl (by first | exact absurd h2 h3 | exact absurd h3 h2 | (rw [wcR, if_neg (Int32.not_lt.mpr h2)]; first | done | rfl) | (rw [wcR, if_pos (Int32.not_le.mp h2)]; first | done | rfl)) (ihi (i + 1) (by omega))
  refine g_lv (lv2 := [(3, _), (0, _), (1, _), (2, _)]) [0, 3, 2, 1] rfl ?_
  exact g_is rfl rfl (LP (8 - 0) (0) (by omega))

abbrev rmX9_doAppeal : Room := { frames := 0, cells := 0, slots := 0, locals := 0 }
theorem iX9_doAppeal_9 : ∀ w ∈ u_ws RX9 TX9 15, w ∈ wsX9_doAppeal := by decide +kernel
set_option maxHeartbeats 200000 in
set_option maxRecDepth 100000 in
theorem kX9_doAppeal (l : Launch) {M : Mm} {e c : Nat} (he : e < 20) (hc : c < 8) (hC : M 710 (92 + e) = nI c) : Ct l yX9_doAppeal wsX9_doAppeal rmX9_doAppeal (fun B => [.ref (B + 709), .int (nI e)]) M (fun _ v u => v = some (.int (daB (M 710) e)) ∧ u = va_up M 710 (daR (M 710) e c)) := by
  refine Ct.ofI (own := RX9) (by decide +kernel) rfl rfl (fun B => Nat.le_of_ble_eq_true rfl) ?_
  intro pp ee ss mm aa bb me c9 DD ca B Tl AA QQ F K
  show G pp l ee rmX9_doAppeal ss mm aa bb me c9 QQ DD ca B Tl AA 3 0 0 M 0 [(0, .ref (B + 709)), (1, .int (nI e))] []
  refine g_aload_n F dX9_doAppeal_0 rfl 0 rfl ?_
  refine gg9_state F iX9_doAppeal_9 r709 (by decide +kernel) dX9_doAppeal_1 ?_
  refine g_sipush F (v := 152) dX9_doAppeal_4 (by decide +kernel) ?_
  refine g_iload_n F dX9_doAppeal_7 rfl 1 rfl ?_
  refine g_iadd F dX9_doAppeal_8 ?_
  refine g_top (nI_add (152) (e)) ?_
  refine g_iaload (r := 710) F a710 ((152 + e)) rfl (by omega) (by decide) dX9_doAppeal_9 ?_
  refine g_iconst F (v := 2) dX9_doAppeal_10 (by decide) ?_
  refine g_icmp_ge F 18 dX9_doAppeal_11 (by decide) (fun h2 => ?_) (fun h2 => ?_)
  · refine g_iconst F (v := 0) dX9_doAppeal_18 (by decide) ?_
    refine g_istore_n F (lv2 := [(2, _), (0, _), (1, _)]) dX9_doAppeal_19 rfl (by decide) rfl ?_
    refine g_aload_n F dX9_doAppeal_20 rfl 1 rfl ?_
    refine gg9_state F iX9_doAppeal_9 r709 (by decide +kernel) dX9_doAppeal_21 ?_
    refine g_sipush F (v := 132) dX9_doAppeal_24 (by decide +kernel) ?_
    refine g_iload_n F dX9_doAppeal_27 rfl 2 rfl ?_
    refine g_iadd F dX9_doAppeal_28 ?_
    refine g_top (nI_add (132) (e)) ?_
    refine g_iload_n F dX9_doAppeal_29 rfl 0 rfl ?_
    refine g_if_eq F 37 dX9_doAppeal_30 (by decide) (fun h8 => ?_) (fun h8 => ?_)
    · refine g_iconst F (v := 1) dX9_doAppeal_37 (by decide) ?_
      refine g_top (y := if M 710 (152 + e) < 2 then 2 else 1) (by first | exact (if_neg (Int32.not_lt.mpr h2)).symm | exact (if_pos (Int32.not_le.mp h2)).symm) ?_
      refine g_iastore (r := 710) F a710 ((132 + e)) rfl (by omega) (by decide) dX9_doAppeal_38 ?_
      refine g_aload_n F dX9_doAppeal_39 rfl 1 rfl ?_
      refine gg9_state F iX9_doAppeal_9 r709 (by decide +kernel) dX9_doAppeal_40 ?_
      refine g_bipush F (v := 84) dX9_doAppeal_43 (by decide +kernel) ?_
      refine g_aload_n F dX9_doAppeal_45 rfl 1 rfl ?_
      refine gg9_state F iX9_doAppeal_9 r709 (by decide +kernel) dX9_doAppeal_46 ?_
      refine g_bipush F (v := 92) dX9_doAppeal_49 (by decide +kernel) ?_
      refine g_iload_n F dX9_doAppeal_51 rfl 2 rfl ?_
      refine g_iadd F dX9_doAppeal_52 ?_
      refine g_top (nI_add (92) (e)) ?_
      refine g_iaload (r := 710) F a710 ((92 + e)) rfl (by omega) (by decide) dX9_doAppeal_53 ?_
      refine g_top (y := nI c) (by rw [va_up_self, upd_ne _ _ (by omega)]; exact hC) ?_
      refine g_iadd F dX9_doAppeal_54 ?_
      refine g_top (nI_add (84) (c)) ?_
      refine g_dup2 F dX9_doAppeal_55 rfl rfl ?_
      refine g_iaload (r := 710) F a710 ((84 + c)) rfl (by omega) (by decide) dX9_doAppeal_56 ?_
      refine g_iload_n F dX9_doAppeal_57 rfl 0 rfl ?_
      refine g_if_eq F 73 dX9_doAppeal_58 (by decide) (fun h7 => ?_) (fun h7 => ?_)
      · refine g_iconst F (v := 0) dX9_doAppeal_73 (by decide) ?_
        refine g_top (y := if M 710 (152 + e) < 2 then M 710 (112 + e) else 0) (by first | exact (if_neg (Int32.not_lt.mpr h2)).symm | exact (if_pos (Int32.not_le.mp h2)).symm) ?_
        refine g_iadd F dX9_doAppeal_74 ?_
        refine g_iastore (r := 710) F a710 ((84 + c)) rfl (by omega) (by decide) dX9_doAppeal_75 ?_
        try simp only [bx_uu, va_up_self]
        refine g_iload_n F dX9_doAppeal_76 rfl 0 rfl ?_
        exact K _ _ _ _ dX9_doAppeal_77 (by first | exact (bit_z bit_0).1 | exact (bit_z bit_1).1) ⟨congrArg (fun q => some (Value.int q)) (by first | exact (if_neg (Int32.not_lt.mpr h2)).symm | exact (if_pos (Int32.not_le.mp h2)).symm), rfl⟩
      · exact absurd h7 (by decide)
    · exact absurd h8 (by decide)
  · refine g_iconst F (v := 1) dX9_doAppeal_14 (by decide) ?_
    refine g_goto F 19 dX9_doAppeal_15 (by decide) ?_
    refine g_istore_n F (lv2 := [(2, _), (0, _), (1, _)]) dX9_doAppeal_19 rfl (by decide) rfl ?_
    refine g_aload_n F dX9_doAppeal_20 rfl 1 rfl ?_
    refine gg9_state F iX9_doAppeal_9 r709 (by decide +kernel) dX9_doAppeal_21 ?_
    refine g_sipush F (v := 132) dX9_doAppeal_24 (by decide +kernel) ?_
    refine g_iload_n F dX9_doAppeal_27 rfl 2 rfl ?_
    refine g_iadd F dX9_doAppeal_28 ?_
    refine g_top (nI_add (132) (e)) ?_
    refine g_iload_n F dX9_doAppeal_29 rfl 0 rfl ?_
    refine g_if_eq F 37 dX9_doAppeal_30 (by decide) (fun h8 => ?_) (fun h8 => ?_)
    · exact absurd h8 (by decide)
    · refine g_iconst F (v := 2) dX9_doAppeal_33 (by decide) ?_
      refine g_goto F 38 dX9_doAppeal_34 (by decide) ?_
      refine g_top (y := if M 710 (152 + e) < 2 then 2 else 1) (by first | exact (if_neg (Int32.not_lt.mpr h2)).symm | exact (if_pos (Int32.not_le.mp h2)).symm) ?_
      refine g_iastore (r := 710) F a710 ((132 + e)) rfl (by omega) (by decide) dX9_doAppeal_38 ?_
      refine g_aload_n F dX9_doAppeal_39 rfl 1 rfl ?_
      refine gg9_state F iX9_doAppeal_9 r709 (by decide +kernel) dX9_doAppeal_40 ?_
      refine g_bipush F (v := 84) dX9_doAppeal_43 (by decide +kernel) ?_
      refine g_aload_n F dX9_doAppeal_45 rfl 1 rfl ?_
      refine gg9_state F iX9_doAppeal_9 r709 (by decide +kernel) dX9_doAppeal_46 ?_
      refine g_bipush F (v := 92) dX9_doAppeal_49 (by decide +kernel) ?_
      refine g_iload_n F dX9_doAppeal_51 rfl 2 rfl ?_
      refine g_iadd F dX9_doAppeal_52 ?_
      refine g_top (nI_add (92) (e)) ?_
      refine g_iaload (r := 710) F a710 ((92 + e)) rfl (by omega) (by decide) dX9_doAppeal_53 ?_
      refine g_top (y := nI c) (by rw [va_up_self, upd_ne _ _ (by omega)]; exact hC) ?_
      refine g_iadd F dX9_doAppeal_54 ?_
      refine g_top (nI_add (84) (c)) ?_
      refine g_dup2 F dX9_doAppeal_55 rfl rfl ?_
      refine g_iaload (r := 710) F a710 ((84 + c)) rfl (by omega) (by decide) dX9_doAppeal_56 ?_
      refine g_iload_n F dX9_doAppeal_57 rfl 0 rfl ?_
      refine g_if_eq F 73 dX9_doAppeal_58 (by decide) (fun h7 => ?_) (fun h7 => ?_)
      · exact absurd h7 (by decide)
      · refine g_aload_n F dX9_doAppeal_61 rfl 1 rfl ?_
        refine gg9_state F iX9_doAppeal_9 r709 (by decide +kernel) dX9_doAppeal_62 ?_
        refine g_bipush F (v := 112) dX9_doAppeal_65 (by decide +kernel) ?_
        refine g_iload_n F dX9_doAppeal_67 rfl 2 rfl ?_
        refine g_iadd F dX9_doAppeal_68 ?_
        refine g_top (nI_add (112) (e)) ?_
        refine g_iaload (r := 710) F a710 ((112 + e)) rfl (by omega) (by decide) dX9_doAppeal_69 ?_
        refine g_top (y := M 710 (112 + e)) (by rw [va_up_self, upd_ne _ _ (by omega)]) ?_
        refine g_goto F 74 dX9_doAppeal_70 (by decide) ?_
        refine g_top (y := if M 710 (152 + e) < 2 then M 710 (112 + e) else 0) (by first | exact (if_neg (Int32.not_lt.mpr h2)).symm | exact (if_pos (Int32.not_le.mp h2)).symm) ?_
        refine g_iadd F dX9_doAppeal_74 ?_
        refine g_iastore (r := 710) F a710 ((84 + c)) rfl (by omega) (by decide) dX9_doAppeal_75 ?_
        try simp only [bx_uu, va_up_self]
        refine g_iload_n F dX9_doAppeal_76 rfl 0 rfl ?_
        exact K _ _ _ _ dX9_doAppeal_77 (by first | exact (bit_z bit_0).1 | exact (bit_z bit_1).1) ⟨congrArg (fun q => some (Value.int q)) (by first | exact (if_neg (Int32.not_lt.mpr h2)).symm | exact (if_pos (Int32.not_le.mp h2)).symm), rfl⟩

theorem daB_nar (f : Nat → Int32) (e : Nat) : narrow .boolean (.int (daB f e)) = .int (daB f e) := by unfold daB; split <;> first | exact (bit_z bit_0).1 | exact (bit_z bit_1).1
abbrev rmX9_appeal : Room := { frames := 2, cells := 0, slots := 0, locals := 43 }
theorem iX9_appeal_9 : ∀ w ∈ u_ws RX9 TX9 15, w ∈ wsX9_appeal := by decide +kernel
set_option maxHeartbeats 200000 in
set_option maxRecDepth 100000 in
theorem kX9_appeal (l : Launch) {M : Mm} {s : Nat} (hs6 : s ≤ 6) (hs : M 709 3 = nI s) {n : Nat} (hn : M 710 75 = nI n) (hn20 : n ≤ 20) (hC : ∀ e, e < n → (M 710 (92 + e)).toNatClampNeg < 8 ∧ M 710 (92 + e) = nI (M 710 (92 + e)).toNatClampNeg) (x : Int32) : Ct l yX9_appeal wsX9_appeal rmX9_appeal (fun B => [.ref (B + 709), .int x]) M (fun _ v u => ¬ (isN n x) ∧ v = some (.int (0)) ∧ u = thM M 1 ∨ ∃ e, e < n ∧ x = nI e ∧ (0 < M 710 (132 + e) ∧ v = some (.int (0)) ∧ u = thM M 2 ∨ ¬ 0 < M 710 (132 + e) ∧ v = some (.int (daB ((rcM (thM M 0) s) 710) e)) ∧ u = va_up (rcM (thM M 0) s) 710 (daR ((rcM (thM M 0) s) 710) e (M 710 (92 + e)).toNatClampNeg))) := by
  refine Ct.ofI (own := RX9) (by decide +kernel) rfl rfl (fun B => Nat.le_of_ble_eq_true rfl) ?_
  intro pp ee ss mm aa bb me c9 DD ca B Tl AA QQ F K
  show G pp l ee rmX9_appeal ss mm aa bb me c9 QQ DD ca B Tl AA 2 0 0 M 0 [(0, .ref (B + 709)), (1, .int x)] []
  refine g_aload_n F dX9_appeal_0 rfl 0 rfl ?_
  refine g_aload_n F dX9_appeal_1 rfl 0 rfl ?_
  refine g_iload_n F dX9_appeal_2 rfl 1 rfl ?_
  refine g_callV F (kX9_isNotice l _) (cwV 1 F.1.2.2.2.2 gX9_appeal_X9_isNotice rfl rfl rfl (by decide +kernel) ⟨Nat.le_of_ble_eq_true rfl, Nat.le_of_ble_eq_true rfl⟩) r709 (by decide) rfl rfl rfl rfl (Nat.le_of_ble_eq_true rfl) dX9_appeal_3 ⟨Nat.le_of_ble_eq_true rfl, Nat.le_of_ble_eq_true rfl⟩ (g_det ?_)
  refine g_ifB_ne F 13 dX9_appeal_6 (by decide) (fun h1 => ?_) (fun h1 => ?_)
  · have hN1 : isN n x := (isN_iff hn).mp h1
    obtain ⟨e, he, rfl⟩ := ofe hn20 hN1
    refine g_aload_n F dX9_appeal_13 rfl 0 rfl ?_
    refine gg9_state F iX9_appeal_9 r709 (by decide +kernel) dX9_appeal_14 ?_
    refine g_sipush F (v := 132) dX9_appeal_17 (by decide +kernel) ?_
    refine g_iload_n F dX9_appeal_20 rfl 1 rfl ?_
    refine g_iadd F dX9_appeal_21 ?_
    refine g_top (nI_add (132) (e)) ?_
    refine g_iaload (r := 710) F a710 ((132 + e)) rfl (by omega) (by decide) dX9_appeal_22 ?_
    refine g_if_le F 30 dX9_appeal_23 (by decide) (fun h2 => ?_) (fun h2 => ?_)
    · refine g_iconst F (v := 0) dX9_appeal_30 (by decide) ?_
      refine gp9_thrown F iX9_appeal_9 r709 (by decide +kernel) dX9_appeal_31 ?_
      refine g_mem (show va_up M 709 (upd (M 709) 0 _) = thM M _ from rfl) ?_
      refine g_aload_n F dX9_appeal_34 rfl 0 rfl ?_
      refine gg9_thrown F iX9_appeal_9 r709 (by decide +kernel) dX9_appeal_35 ?_
      refine g_top (y := 0) (by rfl) ?_
      refine g_if_le F 43 dX9_appeal_38 (by decide) (fun h9 => ?_) (fun h9 => ?_)
      · refine g_aload_n F dX9_appeal_43 rfl 0 rfl ?_
        refine g_callV F (kX9_record l (M := (thM M 0)) (s := s) hs6 hs) (cwV 0 F.1.2.2.2.2 gX9_appeal_X9_record rfl rfl rfl (by decide +kernel) ⟨Nat.le_of_ble_eq_true rfl, Nat.le_of_ble_eq_true rfl⟩) r709 (by decide) rfl rfl rfl rfl (Nat.le_of_ble_eq_true rfl) dX9_appeal_44 ⟨Nat.le_of_ble_eq_true rfl, Nat.le_of_ble_eq_true rfl⟩ (g_det ?_)
        refine g_aload_n F dX9_appeal_47 rfl 0 rfl ?_
        refine g_iload_n F dX9_appeal_48 rfl 1 rfl ?_
        refine g_callV F (kX9_doAppeal l (M := (rcM (thM M 0) s)) (e := e) (c := (M 710 (92 + e)).toNatClampNeg) (by omega) (hC e he).1 (hC e he).2) (cwV 1 F.1.2.2.2.2 gX9_appeal_X9_doAppeal rfl rfl rfl (by decide +kernel) ⟨Nat.le_of_ble_eq_true rfl, Nat.le_of_ble_eq_true rfl⟩) r709 (by decide) rfl rfl rfl rfl (Nat.le_of_ble_eq_true rfl) dX9_appeal_49 ⟨Nat.le_of_ble_eq_true rfl, Nat.le_of_ble_eq_true rfl⟩ (g_det ?_)
        exact K _ _ _ _ dX9_appeal_52 (by first | exact (bit_z bit_0).1 | exact (bit_z bit_1).1 | exact daB_nar _ _) (by first | exact Or.inl ⟨(fun z => h1 ((isN_iff hn).mpr z)), rfl, rfl⟩ | exact Or.inr ⟨e, he, rfl, Or.inl ⟨Int32.not_le.mp h2, rfl, rfl⟩⟩ | exact Or.inr ⟨e, he, rfl, Or.inr ⟨Int32.not_lt.mpr h2, rfl, rfl⟩⟩)
      · exact absurd (by decide) h9
    · refine g_iconst F (v := 2) dX9_appeal_26 (by decide) ?_
      refine g_goto F 31 dX9_appeal_27 (by decide) ?_
      refine gp9_thrown F iX9_appeal_9 r709 (by decide +kernel) dX9_appeal_31 ?_
      refine g_mem (show va_up M 709 (upd (M 709) 0 _) = thM M _ from rfl) ?_
      refine g_aload_n F dX9_appeal_34 rfl 0 rfl ?_
      refine gg9_thrown F iX9_appeal_9 r709 (by decide +kernel) dX9_appeal_35 ?_
      refine g_top (y := 2) (by rfl) ?_
      refine g_if_le F 43 dX9_appeal_38 (by decide) (fun h9 => ?_) (fun h9 => ?_)
      · exact absurd h9 (by decide)
      · refine g_iconst F (v := 0) dX9_appeal_41 (by decide) ?_
        exact K _ _ _ _ dX9_appeal_42 (by first | exact (bit_z bit_0).1 | exact (bit_z bit_1).1 | exact daB_nar _ _) (by first | exact Or.inl ⟨(fun z => h1 ((isN_iff hn).mpr z)), rfl, rfl⟩ | exact Or.inr ⟨e, he, rfl, Or.inl ⟨Int32.not_le.mp h2, rfl, rfl⟩⟩ | exact Or.inr ⟨e, he, rfl, Or.inr ⟨Int32.not_lt.mpr h2, rfl, rfl⟩⟩)
  · refine g_iconst F (v := 1) dX9_appeal_9 (by decide) ?_
    refine g_goto F 31 dX9_appeal_10 (by decide) ?_
    refine gp9_thrown F iX9_appeal_9 r709 (by decide +kernel) dX9_appeal_31 ?_
    refine g_mem (show va_up M 709 (upd (M 709) 0 _) = thM M _ from rfl) ?_
    refine g_aload_n F dX9_appeal_34 rfl 0 rfl ?_
    refine gg9_thrown F iX9_appeal_9 r709 (by decide +kernel) dX9_appeal_35 ?_
    refine g_top (y := 1) (by rfl) ?_
    refine g_if_le F 43 dX9_appeal_38 (by decide) (fun h9 => ?_) (fun h9 => ?_)
    · exact absurd h9 (by decide)
    · refine g_iconst F (v := 0) dX9_appeal_41 (by decide) ?_
      exact K _ _ _ _ dX9_appeal_42 (by first | exact (bit_z bit_0).1 | exact (bit_z bit_1).1 | exact daB_nar _ _) (by first | exact Or.inl ⟨(fun z => h1 ((isN_iff hn).mpr z)), rfl, rfl⟩ | exact Or.inr ⟨e, he, rfl, Or.inl ⟨Int32.not_le.mp h2, rfl, rfl⟩⟩ | exact Or.inr ⟨e, he, rfl, Or.inr ⟨Int32.not_lt.mpr h2, rfl, rfl⟩⟩)
