/-- an appeal is decided -/
def deF (M : Mm) (r q c : Nat) : Mm := if M q 2 = 0 ∧ M q 3 = 0 then va_up M q (upd (M q) 4 1) else va_up (va_up M q (upd (upd (M q) 4 1) 5 0)) (chP r c) (upd (M (chP r c)) 5 (M (chP r c) 5 + M q 1))
theorem in7 {c : Nat} (h : c < 8) : (0 : Int32) ≤ nI c ∧ nI c ≤ 7 := ⟨nI_pos' (by omega), (nI_leI (a := c) (b := 7) (by omega) (by omega)).mpr (by omega)⟩
theorem of7 {x : Int32} (h : 0 ≤ x ∧ x ≤ 7) : ∃ c, c < 8 ∧ x = nI c := by
  obtain ⟨j, hj, e⟩ := nI_of2 (M := 7) (n := 7) (by decide) (Int32.not_lt.mpr h.1) h.2
  exact ⟨j, by omega, e⟩

abbrev rmX6_decide : Room := { frames := 1, cells := 0, slots := 0, locals := 22 }
theorem iX6_decide_0 : ∀ w ∈ u_ws RX0 TX0 8, w ∈ wsX6_decide := by decide +kernel
theorem iX6_decide_3 : ∀ w ∈ u_ws RX3 TX3 6, w ∈ wsX6_decide := by decide +kernel
theorem iX6_decide_6 : ∀ w ∈ u_ws RX6 TX6 10, w ∈ wsX6_decide := by decide +kernel
set_option maxHeartbeats 4000000 in
set_option maxRecDepth 100000 in
theorem kX6_decide (l : Launch) {M : Mm} {r q c : Nat} (hr : isR 6 r) (hq : isR 3 q) (hc8 : c < 8) (hc : M q 0 = nI c) : Ct l yX6_decide wsX6_decide rmX6_decide (fun B => [.ref (B + r), .ref (B + q)]) M (fun _ v u => v = none ∧ u = deF M r q c) := by
  refine Ct.ofV (own := RX6) (by decide +kernel) rfl rfl (fun B => Nat.le_of_ble_eq_true rfl) ?_
  intro pp ee ss mm aa bb me c9 DD ca B Tl AA QQ F K
  show G pp l ee rmX6_decide ss mm aa bb me c9 QQ DD ca B Tl AA 2 0 0 M 0 [(0, .ref (B + r)), (1, .ref (B + q))] []
  have hne : chP r c ≠ q := isR_ne (el12 (sb6 hr).1 hc8) hq (by decide)
  refine g_aload_n F dX6_decide_0 rfl 1 rfl ?_
  refine g_iconst F (v := 1) dX6_decide_1 (by decide) ?_
  refine gp3_appealed F iX6_decide_3 hq (by decide +kernel) (by first | exact bit_0 | exact bit_1 | assumption) dX6_decide_2 ?_
  refine g_aload_n F dX6_decide_5 rfl 1 rfl ?_
  refine gg3_wasGrey F iX6_decide_3 hq (by decide +kernel) dX6_decide_6 ?_
  refine g_top (y := M q 2) (by rw [va_up_self]; rfl) ?_
  refine g_if_ne F 19 dX6_decide_9 (by decide) (fun h1 => ?_) (fun h1 => ?_)
  · refine g_aload_n F dX6_decide_19 rfl 1 rfl ?_
    refine g_iconst F (v := 0) dX6_decide_20 (by decide) ?_
    refine gp3_standing F iX6_decide_3 hq (by decide +kernel) (by first | exact bit_0 | exact bit_1 | assumption) dX6_decide_21 ?_
    try simp only [bx_uu, va_up_self]
    refine g_aload_n F dX6_decide_24 rfl 1 rfl ?_
    refine gg3_chimney F iX6_decide_3 hq (by decide +kernel) dX6_decide_25 ?_
    refine g_top (y := nI c) (by rw [va_up_self]; exact hc) ?_
    refine g_iconst F (v := 0) dX6_decide_28 (by decide) ?_
    refine g_bipush F (v := 7) dX6_decide_29 (by decide +kernel) ?_
    refine g_callSN F (kX8_isWithin l _ _ _) ⟨va_cnB 3 F.1.2.2.2.2 gX6_decide_X8_isWithin_n109 rfl rfl rfl (F.2.2.2.1.1 (RX6, 109, yX8_isWithin, "ShadeCards") (by decide +kernel)) (F.1.2.2.2.2 (.initialized RX8) (by decide +kernel)) (by decide +kernel) ⟨Nat.le_of_ble_eq_true rfl, Nat.le_of_ble_eq_true rfl⟩, F.1.2.2.2.2 (.static yX8_isWithin) (by decide +kernel), trivial⟩ rfl rfl rfl (Nat.le_of_ble_eq_true rfl) dX6_decide_31 ⟨Nat.le_of_ble_eq_true rfl, Nat.le_of_ble_eq_true rfl⟩ (g_det ?_)
    refine g_ifB_eq F 58 dX6_decide_34 (by decide) (fun h3 => ?_) (fun h3 => ?_)
    · exact absurd (in7 hc8) h3
    · refine g_aload_n F dX6_decide_37 rfl 0 rfl ?_
      refine gg6_chimneys F iX6_decide_6 hr (by decide +kernel) dX6_decide_38 ?_
      refine g_aload_n F dX6_decide_41 rfl 1 rfl ?_
      refine gg3_chimney F iX6_decide_3 hq (by decide +kernel) dX6_decide_42 ?_
      refine g_top (y := nI c) (by rw [va_up_self]; exact hc) ?_
      refine g_aaload12 F (sb6 hr).1 (c) rfl (by omega) dX6_decide_45 ?_
      refine g_dup F dX6_decide_46 rfl ?_
      refine gg0_finesBack F iX6_decide_0 (el12 (sb6 hr).1 (by omega)) (by decide +kernel) dX6_decide_47 ?_
      refine g_top (y := M (chP r c) 5) (by rw [va_up_ne M _ hne]) ?_
      refine g_aload_n F dX6_decide_50 rfl 1 rfl ?_
      refine gg3_fine F iX6_decide_3 hq (by decide +kernel) dX6_decide_51 ?_
      refine g_top (y := M q 1) (by rw [va_up_self]; rfl) ?_
      refine g_iadd F dX6_decide_54 ?_
      refine gp0_finesBack F iX6_decide_0 (el12 (sb6 hr).1 (by omega)) (by decide +kernel) dX6_decide_55 ?_
      try simp only [va_up_ne M _ hne]
      exact K _ _ _ dX6_decide_58 ⟨rfl, by first | (rw [deF, if_pos (And.intro (Decidable.not_not.mp h1) h2)]; done) | (rw [deF, if_neg (fun z => h1 z.1)]; done) | (rw [deF, if_neg (fun z => h2 z.2)]; done) | (rw [deF, if_pos (And.intro h1 h2)]; done)⟩
  · refine g_aload_n F dX6_decide_12 rfl 1 rfl ?_
    refine gg3_wasLess F iX6_decide_3 hq (by decide +kernel) dX6_decide_13 ?_
    refine g_top (y := M q 3) (by rw [va_up_self]; rfl) ?_
    refine g_if_eq F 58 dX6_decide_16 (by decide) (fun h2 => ?_) (fun h2 => ?_)
    · exact K _ _ _ dX6_decide_58 ⟨rfl, by first | (rw [deF, if_pos (And.intro (Decidable.not_not.mp h1) h2)]; done) | (rw [deF, if_neg (fun z => h1 z.1)]; done) | (rw [deF, if_neg (fun z => h2 z.2)]; done) | (rw [deF, if_pos (And.intro h1 h2)]; done)⟩
    · refine g_aload_n F dX6_decide_19 rfl 1 rfl ?_
      refine g_iconst F (v := 0) dX6_decide_20 (by decide) ?_
      refine gp3_standing F iX6_decide_3 hq (by decide +kernel) (by first | exact bit_0 | exact bit_1 | assumption) dX6_decide_21 ?_
      try simp only [bx_uu, va_up_self]
      refine g_aload_n F dX6_decide_24 rfl 1 rfl ?_
      refine gg3_chimney F iX6_decide_3 hq (by decide +kernel) dX6_decide_25 ?_
      refine g_top (y := nI c) (by rw [va_up_self]; exact hc) ?_
      refine g_iconst F (v := 0) dX6_decide_28 (by decide) ?_
      refine g_bipush F (v := 7) dX6_decide_29 (by decide +kernel) ?_
      refine g_callSN F (kX8_isWithin l _ _ _) ⟨va_cnB 3 F.1.2.2.2.2 gX6_decide_X8_isWithin_n109 rfl rfl rfl (F.2.2.2.1.1 (RX6, 109, yX8_isWithin, "ShadeCards") (by decide +kernel)) (F.1.2.2.2.2 (.initialized RX8) (by decide +kernel)) (by decide +kernel) ⟨Nat.le_of_ble_eq_true rfl, Nat.le_of_ble_eq_true rfl⟩, F.1.2.2.2.2 (.static yX8_isWithin) (by decide +kernel), trivial⟩ rfl rfl rfl (Nat.le_of_ble_eq_true rfl) dX6_decide_31 ⟨Nat.le_of_ble_eq_true rfl, Nat.le_of_ble_eq_true rfl⟩ (g_det ?_)
      refine g_ifB_eq F 58 dX6_decide_34 (by decide) (fun h3 => ?_) (fun h3 => ?_)
      · exact absurd (in7 hc8) h3
      · refine g_aload_n F dX6_decide_37 rfl 0 rfl ?_
        refine gg6_chimneys F iX6_decide_6 hr (by decide +kernel) dX6_decide_38 ?_
        refine g_aload_n F dX6_decide_41 rfl 1 rfl ?_
        refine gg3_chimney F iX6_decide_3 hq (by decide +kernel) dX6_decide_42 ?_
        refine g_top (y := nI c) (by rw [va_up_self]; exact hc) ?_
        refine g_aaload12 F (sb6 hr).1 (c) rfl (by omega) dX6_decide_45 ?_
        refine g_dup F dX6_decide_46 rfl ?_
        refine gg0_finesBack F iX6_decide_0 (el12 (sb6 hr).1 (by omega)) (by decide +kernel) dX6_decide_47 ?_
        refine g_top (y := M (chP r c) 5) (by rw [va_up_ne M _ hne]) ?_
        refine g_aload_n F dX6_decide_50 rfl 1 rfl ?_
        refine gg3_fine F iX6_decide_3 hq (by decide +kernel) dX6_decide_51 ?_
        refine g_top (y := M q 1) (by rw [va_up_self]; rfl) ?_
        refine g_iadd F dX6_decide_54 ?_
        refine gp0_finesBack F iX6_decide_0 (el12 (sb6 hr).1 (by omega)) (by decide +kernel) dX6_decide_55 ?_
        try simp only [va_up_ne M _ hne]
        exact K _ _ _ dX6_decide_58 ⟨rfl, by first | (rw [deF, if_pos (And.intro (Decidable.not_not.mp h1) h2)]; done) | (rw [deF, if_neg (fun z => h1 z.1)]; done) | (rw [deF, if_neg (fun z => h2 z.2)]; done) | (rw [deF, if_pos (And.intro h1 h2)]; done)⟩

def orI (b : Nat → Int32) : Nat → Int32
  | 0 => 0
  | i + 1 => orI b i ||| b i
theorem bit_or {x y : Int32} (h1 : bit x) (h2 : bit y) : bit (x ||| y) := by rcases h1 with rfl | rfl <;> rcases h2 with rfl | rfl <;> (unfold bit; decide)
def fiR (f : Nat → Int32) (c0 fi g l : Int32) : Nat → Int32 := fun j => if j = 3 then l else if j = 2 then g else if j = 1 then fi else if j = 0 then c0 else f j
theorem fiR_2 (f : Nat → Int32) (c0 fi g l x : Int32) : upd (fiR f c0 fi g l) 2 x = fiR f c0 fi x l := by
  funext j; unfold upd fiR; by_cases h : j = 2
  · subst h; simp
  · simp [h]
theorem fiR_3 (f : Nat → Int32) (c0 fi g l x : Int32) : upd (fiR f c0 fi g l) 3 x = fiR f c0 fi g x := by
  funext j; unfold upd fiR; by_cases h : j = 3
  · subst h; simp
  · simp [h]
theorem fiR_new (f : Nat → Int32) (c0 fi g l : Int32) : upd (upd (upd (upd f 0 c0) 1 fi) 2 g) 3 l = fiR f c0 fi g l := by
  funext j; rfl
def grB (M : Mm) (r t : Nat) (j : Nat) : Int32 := if M (r + 5 + 1) (t - j) < 3 then 0 else 1
def leB (M : Mm) (r t c : Nat) (j : Nat) : Int32 := if M r 6 ≤ M (chP r c + 3 + 1) (t - j) then 0 else 1
theorem grB_bit (M : Mm) (r t j : Nat) : bit (grB M r t j) := by unfold grB; split; exact bit_0; exact bit_1
theorem leB_bit (M : Mm) (r t c j : Nat) : bit (leB M r t c j) := by unfold leB; split; exact bit_0; exact bit_1
theorem orI_bit {b : Nat → Int32} (h : ∀ j, bit (b j)) : ∀ i, bit (orI b i)
  | 0 => bit_0
  | i + 1 => bit_or (orI_bit h i) (h i)
theorem stdF_up {M : Mm} {r q : Nat} {row : Nat → Int32} (x : Int32) : ∀ n, (∀ e, e < n → noP r e ≠ q) → stdF (va_up M q row) r x n = stdF M r x n := by
  intro n
  induction n with
  | zero => intro _; rfl
  | succ n ih =>
    intro h
    unfold stdF
    rw [ih (fun e he => h e (by omega)), va_up_ne M _ (h n (by omega))]
def fnF (M : Mm) (r c n : Nat) : Int32 := 10 * (stdF M r (nI c) n + 1)
/-- a notice is written -/
def fillF (M : Mm) (r q c n t p : Nat) : Mm := va_up (va_up M q (upd (upd (fiR (M q) (nI c) (fnF M r c n) (orI (grB M r t) p) (orI (leB M r t c) p)) 4 0) 5 1)) (chP r c) (upd (M (chP r c)) 4 (M (chP r c) 4 + fnF M r c n))

abbrev rmX6_fill : Room := { frames := 1, cells := 0, slots := 0, locals := 23 }
theorem iX6_fill_0 : ∀ w ∈ u_ws RX0 TX0 8, w ∈ wsX6_fill := by decide +kernel
theorem iX6_fill_3 : ∀ w ∈ u_ws RX3 TX3 6, w ∈ wsX6_fill := by decide +kernel
theorem iX6_fill_6 : ∀ w ∈ u_ws RX6 TX6 10, w ∈ wsX6_fill := by decide +kernel
set_option maxHeartbeats 4000000 in
set_option maxRecDepth 100000 in
theorem kX6_fill (l : Launch) {M : Mm} {r q c n t p : Nat} (hr : isR 6 r) (hq : isR 3 q) (hc8 : c < 8) (hn : M r 5 = nI n) (hn20 : n ≤ 20) (hqe : ∀ e, e < n → noP r e ≠ q) (ht : t < 96) (ht9 : M r 9 = nI t) (hp8 : p ≤ 8) (hpt : p ≤ t + 1) (hp : M r 7 = nI p) : Ct l yX6_fill wsX6_fill rmX6_fill (fun B => [.ref (B + r), .ref (B + q), .int (nI c), .ref (B + chP r c)]) M (fun _ v u => v = none ∧ u = fillF M r q c n t p) := by
  refine Ct.ofV (own := RX6) (by decide +kernel) rfl rfl (fun B => Nat.le_of_ble_eq_true rfl) ?_
  intro pp ee ss mm aa bb me c9 DD ca B Tl AA QQ F K
  show G pp l ee rmX6_fill ss mm aa bb me c9 QQ DD ca B Tl AA 5 0 0 M 0 [(0, .ref (B + r)), (1, .ref (B + q)), (2, .int (nI c)), (3, .ref (B + chP r c))] []
  have hch : isR 0 (chP r c) := el12 (sb6 hr).1 hc8
  have hrq : r ≠ q := isR_ne hr hq (by decide)
  have hcq : chP r c ≠ q := isR_ne hch hq (by decide)
  have hg : r + 5 + 1 ≠ q := isR_ne (isAR (sb1 (sb6 hr).2.2.2.2)) hq (by decide)
  have hs : chP r c + 3 + 1 ≠ q := isR_ne (isAR (sb1 (sb0 hch).2)) hq (by decide)
  refine g_aload_n F dX6_fill_0 rfl 1 rfl ?_
  refine g_iload_n F dX6_fill_1 rfl 2 rfl ?_
  refine gp3_chimney F iX6_fill_3 hq (by decide +kernel) dX6_fill_2 ?_
  refine g_aload_n F dX6_fill_5 rfl 1 rfl ?_
  refine g_bipush F (v := 10) dX6_fill_6 (by decide +kernel) ?_
  refine g_aload_n F dX6_fill_8 rfl 0 rfl ?_
  refine g_iload_n F dX6_fill_9 rfl 2 rfl ?_
  refine g_callV F (kX6_standingOf l hr n (by rw [va_up_ne M _ hrq]; exact hn) (by omega) _) (cwV 1 F.1.2.2.2.2 gX6_fill_X6_standingOf rfl rfl rfl (by decide +kernel) ⟨Nat.le_of_ble_eq_true rfl, Nat.le_of_ble_eq_true rfl⟩) hr (by decide) rfl rfl rfl rfl (Nat.le_of_ble_eq_true rfl) dX6_fill_10 ⟨Nat.le_of_ble_eq_true rfl, Nat.le_of_ble_eq_true rfl⟩ (g_det ?_)
  refine g_top (congrArg (fun z => z) (stdF_up (nI c) n hqe)) ?_
  refine g_iconst F (v := 1) dX6_fill_13 (by decide) ?_
  refine g_iadd F dX6_fill_14 ?_
  refine g_imul F dX6_fill_15 ?_
  refine gp3_fine F iX6_fill_3 hq (by decide +kernel) dX6_fill_16 ?_
  try simp only [bx_uu, va_up_self]
  refine g_aload_n F dX6_fill_19 rfl 1 rfl ?_
  refine g_iconst F (v := 0) dX6_fill_20 (by decide) ?_
  refine gp3_wasGrey F iX6_fill_3 hq (by decide +kernel) (by first | exact bit_0 | exact bit_1 | assumption) dX6_fill_21 ?_
  try simp only [bx_uu, va_up_self]
  refine g_aload_n F dX6_fill_24 rfl 1 rfl ?_
  refine g_iconst F (v := 0) dX6_fill_25 (by decide) ?_
  refine gp3_wasLess F iX6_fill_3 hq (by decide +kernel) (by first | exact bit_0 | exact bit_1 | assumption) dX6_fill_26 ?_
  try simp only [bx_uu, va_up_self]
  refine g_mem (congrArg (va_up M q) (fiR_new _ _ _ _ _)) ?_
  refine g_iconst F (v := 0) dX6_fill_29 (by decide) ?_
  refine g_istore F (lv2 := [(4, _), (0, _), (1, _), (2, _), (3, _)]) dX6_fill_30 (by decide) rfl ?_
  have LP : ∀ (ni i : Nat), i + ni = p → G pp l ee rmX6_fill ss mm aa bb me c9 QQ DD ca B Tl AA 5 0 0 (va_up M q (fiR (M q) (nI c) (fnF M r c n) (orI (grB M r t) i) (orI (leB M r t c) i))) 32 [(4, .int (nI i)), (0, .ref (B + r)), (1, .ref (B + q)), (2, .int (nI c)), (3, .ref (B + chP r c))] [] := by
    intro ni
    induction ni with
    | zero =>
      intro i hni
      refine g_iload F dX6_fill_32 0 rfl ?_
      refine g_aload_n F dX6_fill_34 rfl 1 rfl ?_
      refine gg6_patience F iX6_fill_6 hr (by decide +kernel) dX6_fill_35 ?_
      refine g_top (y := nI p) (by rw [va_up_ne M _ hrq]; exact hp) ?_
      refine g_icmpN_ge F 114 dX6_fill_38 (by decide) (i) (p) rfl rfl (by omega) (by omega) (fun hci => ?_) (fun hci => ?_)
      · obtain rfl : i = p := by omega
        refine g_aload_n F dX6_fill_114 rfl 2 rfl ?_
        refine g_iconst F (v := 0) dX6_fill_115 (by decide) ?_
        refine gp3_appealed F iX6_fill_3 hq (by decide +kernel) (by first | exact bit_0 | exact bit_1 | assumption) dX6_fill_116 ?_
        try simp only [bx_uu, va_up_self]
        refine g_aload_n F dX6_fill_119 rfl 2 rfl ?_
        refine g_iconst F (v := 1) dX6_fill_120 (by decide) ?_
        refine gp3_standing F iX6_fill_3 hq (by decide +kernel) (by first | exact bit_0 | exact bit_1 | assumption) dX6_fill_121 ?_
        try simp only [bx_uu, va_up_self]
        refine g_aload_n F dX6_fill_124 rfl 4 rfl ?_
        refine g_dup F dX6_fill_125 rfl ?_
        refine gg0_finesGiven F iX6_fill_0 hch (by decide +kernel) dX6_fill_126 ?_
        refine g_top (y := M (chP r c) 4) (by rw [va_up_ne M _ hcq]) ?_
        refine g_aload_n F dX6_fill_129 rfl 2 rfl ?_
        refine gg3_fine F iX6_fill_3 hq (by decide +kernel) dX6_fill_130 ?_
        refine g_top (y := fnF M r c n) (by rw [va_up_self]; rfl) ?_
        refine g_iadd F dX6_fill_133 ?_
        refine gp0_finesGiven F iX6_fill_0 hch (by decide +kernel) dX6_fill_134 ?_
        try simp only [va_up_ne M _ hcq]
        exact K _ _ _ dX6_fill_137 ⟨rfl, rfl⟩
      · exact absurd hci (by omega)
    | succ ni ihi =>
      intro i hni
      refine g_iload F dX6_fill_32 0 rfl ?_
      refine g_aload_n F dX6_fill_34 rfl 1 rfl ?_
      refine gg6_patience F iX6_fill_6 hr (by decide +kernel) dX6_fill_35 ?_
      refine g_top (y := nI p) (by rw [va_up_ne M _ hrq]; exact hp) ?_
      refine g_icmpN_ge F 114 dX6_fill_38 (by decide) (i) (p) rfl rfl (by omega) (by omega) (fun hci => ?_) (fun hci => ?_)
      · exact absurd hci (by omega)
      · refine g_aload_n F dX6_fill_41 rfl 2 rfl ?_
        refine g_dup F dX6_fill_42 rfl ?_
        refine gg3_wasGrey F iX6_fill_3 hq (by decide +kernel) dX6_fill_43 ?_
        refine g_top (y := orI (grB M r t) i) (by rw [va_up_self]; rfl) ?_
        refine g_aload_n F dX6_fill_46 rfl 1 rfl ?_
        refine gg6_greysThen F iX6_fill_6 hr (by decide +kernel) dX6_fill_47 ?_
        refine g_aload_n F dX6_fill_50 rfl 1 rfl ?_
        refine gg6_tick F iX6_fill_6 hr (by decide +kernel) dX6_fill_51 ?_
        refine g_top (y := nI t) (by rw [va_up_ne M _ hrq]; exact ht9) ?_
        refine g_iload F dX6_fill_54 0 rfl ?_
        refine g_isub F dX6_fill_56 ?_
        refine g_top (pk_sub (a := t) (b := i) (by omega)) ?_
        refine g_callV F (kX1_at l (sb6 hr).2.2.2.2 _) (cwV 1 F.1.2.2.2.2 gX6_fill_X1_at rfl rfl rfl (by decide +kernel) ⟨Nat.le_of_ble_eq_true rfl, Nat.le_of_ble_eq_true rfl⟩) (sb6 hr).2.2.2.2 (by decide) rfl rfl rfl rfl (Nat.le_of_ble_eq_true rfl) dX6_fill_57 ⟨Nat.le_of_ble_eq_true rfl, Nat.le_of_ble_eq_true rfl⟩ (g_det ?_)
        refine g_top (y := M (r + 5 + 1) (t - i)) (by rw [va_up_ne M _ hg]; exact atF_n _ (by omega)) ?_
        refine g_iconst F (v := 3) dX6_fill_60 (by decide) ?_
        refine g_icmp_lt F 68 dX6_fill_61 (by decide) (fun h3 => ?_) (fun h3 => ?_)
        · refine g_iconst F (v := 0) dX6_fill_68 (by decide) ?_
          refine g_ior F dX6_fill_69 ?_
          refine gp3_wasGrey F iX6_fill_3 hq (by decide +kernel) (bit_or (orI_bit (grB_bit M r t) i) (by first | exact bit_0 | exact bit_1)) dX6_fill_70 ?_
          try simp only [bx_uu, va_up_self, fiR_2, fiR_3]
          refine g_aload_n F dX6_fill_73 rfl 2 rfl ?_
          refine g_dup F dX6_fill_74 rfl ?_
          refine gg3_wasLess F iX6_fill_3 hq (by decide +kernel) dX6_fill_75 ?_
          refine g_top (y := orI (leB M r t c) i) (by rw [va_up_self]; rfl) ?_
          refine g_aload_n F dX6_fill_78 rfl 4 rfl ?_
          refine gg0_shadesThen F iX6_fill_0 hch (by decide +kernel) dX6_fill_79 ?_
          refine g_aload_n F dX6_fill_82 rfl 1 rfl ?_
          refine gg6_tick F iX6_fill_6 hr (by decide +kernel) dX6_fill_83 ?_
          refine g_top (y := nI t) (by rw [va_up_ne M _ hrq]; exact ht9) ?_
          refine g_iload F dX6_fill_86 0 rfl ?_
          refine g_isub F dX6_fill_88 ?_
          refine g_top (pk_sub (a := t) (b := i) (by omega)) ?_
          refine g_callV F (kX1_at l (sb0 hch).2 _) (cwV 1 F.1.2.2.2.2 gX6_fill_X1_at rfl rfl rfl (by decide +kernel) ⟨Nat.le_of_ble_eq_true rfl, Nat.le_of_ble_eq_true rfl⟩) (sb0 hch).2 (by decide) rfl rfl rfl rfl (Nat.le_of_ble_eq_true rfl) dX6_fill_89 ⟨Nat.le_of_ble_eq_true rfl, Nat.le_of_ble_eq_true rfl⟩ (g_det ?_)
          refine g_top (y := M (chP r c + 3 + 1) (t - i)) (by rw [va_up_ne M _ hs]; exact atF_n _ (by omega)) ?_
          refine g_aload_n F dX6_fill_92 rfl 1 rfl ?_
          refine gg6_limit F iX6_fill_6 hr (by decide +kernel) dX6_fill_93 ?_
          refine g_top (y := M r 6) (by rw [va_up_ne M _ hrq]) ?_
          refine g_icmp_ge F 103 dX6_fill_96 (by decide) (fun h4 => ?_) (fun h4 => ?_)
          · refine g_iconst F (v := 0) dX6_fill_103 (by decide) ?_
            refine g_ior F dX6_fill_104 ?_
            refine gp3_wasLess F iX6_fill_3 hq (by decide +kernel) (bit_or (orI_bit (leB_bit M r t c) i) (by first | exact bit_0 | exact bit_1)) dX6_fill_105 ?_
            try simp only [bx_uu, va_up_self, fiR_2, fiR_3]
            refine g_iinc F (lv2 := [(4, _), (0, _), (1, _), (2, _), (3, _)]) dX6_fill_108 0 rfl (nI_1 _) (by decide) rfl ?_
            refine g_goto F 32 dX6_fill_111 (by decide) ?_
            refine g_lv (lv2 := [(4, _), (0, _), (1, _), (2, _), (3, _)]) [0, 1, 2, 3, 4] rfl ?_
            exact g_is (by simp only [orI, grB, leB, h3, h4, if_true, if_false] <;> rfl) rfl (ihi (i + 1) (by omega))
          · refine g_iconst F (v := 1) dX6_fill_99 (by decide) ?_
            refine g_goto F 104 dX6_fill_100 (by decide) ?_
            refine g_ior F dX6_fill_104 ?_
            refine gp3_wasLess F iX6_fill_3 hq (by decide +kernel) (bit_or (orI_bit (leB_bit M r t c) i) (by first | exact bit_0 | exact bit_1)) dX6_fill_105 ?_
            try simp only [bx_uu, va_up_self, fiR_2, fiR_3]
            refine g_iinc F (lv2 := [(4, _), (0, _), (1, _), (2, _), (3, _)]) dX6_fill_108 0 rfl (nI_1 _) (by decide) rfl ?_
            refine g_goto F 32 dX6_fill_111 (by decide) ?_
            refine g_lv (lv2 := [(4, _), (0, _), (1, _), (2, _), (3, _)]) [0, 1, 2, 3, 4] rfl ?_
            exact g_is (by simp only [orI, grB, leB, h3, h4, if_true, if_false] <;> rfl) rfl (ihi (i + 1) (by omega))
        · refine g_iconst F (v := 1) dX6_fill_64 (by decide) ?_
          refine g_goto F 69 dX6_fill_65 (by decide) ?_
          refine g_ior F dX6_fill_69 ?_
          refine gp3_wasGrey F iX6_fill_3 hq (by decide +kernel) (bit_or (orI_bit (grB_bit M r t) i) (by first | exact bit_0 | exact bit_1)) dX6_fill_70 ?_
          try simp only [bx_uu, va_up_self, fiR_2, fiR_3]
          refine g_aload_n F dX6_fill_73 rfl 2 rfl ?_
          refine g_dup F dX6_fill_74 rfl ?_
          refine gg3_wasLess F iX6_fill_3 hq (by decide +kernel) dX6_fill_75 ?_
          refine g_top (y := orI (leB M r t c) i) (by rw [va_up_self]; rfl) ?_
          refine g_aload_n F dX6_fill_78 rfl 4 rfl ?_
          refine gg0_shadesThen F iX6_fill_0 hch (by decide +kernel) dX6_fill_79 ?_
          refine g_aload_n F dX6_fill_82 rfl 1 rfl ?_
          refine gg6_tick F iX6_fill_6 hr (by decide +kernel) dX6_fill_83 ?_
          refine g_top (y := nI t) (by rw [va_up_ne M _ hrq]; exact ht9) ?_
          refine g_iload F dX6_fill_86 0 rfl ?_
          refine g_isub F dX6_fill_88 ?_
          refine g_top (pk_sub (a := t) (b := i) (by omega)) ?_
          refine g_callV F (kX1_at l (sb0 hch).2 _) (cwV 1 F.1.2.2.2.2 gX6_fill_X1_at rfl rfl rfl (by decide +kernel) ⟨Nat.le_of_ble_eq_true rfl, Nat.le_of_ble_eq_true rfl⟩) (sb0 hch).2 (by decide) rfl rfl rfl rfl (Nat.le_of_ble_eq_true rfl) dX6_fill_89 ⟨Nat.le_of_ble_eq_true rfl, Nat.le_of_ble_eq_true rfl⟩ (g_det ?_)
          refine g_top (y := M (chP r c + 3 + 1) (t - i)) (by rw [va_up_ne M _ hs]; exact atF_n _ (by omega)) ?_
          refine g_aload_n F dX6_fill_92 rfl 1 rfl ?_
          refine gg6_limit F iX6_fill_6 hr (by decide +kernel) dX6_fill_93 ?_
          refine g_top (y := M r 6) (by rw [va_up_ne M _ hrq]) ?_
          refine g_icmp_ge F 103 dX6_fill_96 (by decide) (fun h4 => ?_) (fun h4 => ?_)
          · refine g_iconst F (v := 0) dX6_fill_103 (by decide) ?_
            refine g_ior F dX6_fill_104 ?_
            refine gp3_wasLess F iX6_fill_3 hq (by decide +kernel) (bit_or (orI_bit (leB_bit M r t c) i) (by first | exact bit_0 | exact bit_1)) dX6_fill_105 ?_
            try simp only [bx_uu, va_up_self, fiR_2, fiR_3]
            refine g_iinc F (lv2 := [(4, _), (0, _), (1, _), (2, _), (3, _)]) dX6_fill_108 0 rfl (nI_1 _) (by decide) rfl ?_
            refine g_goto F 32 dX6_fill_111 (by decide) ?_
            refine g_lv (lv2 := [(4, _), (0, _), (1, _), (2, _), (3, _)]) [0, 1, 2, 3, 4] rfl ?_
            exact g_is (by simp only [orI, grB, leB, h3, h4, if_true, if_false] <;> rfl) rfl (ihi (i + 1) (by omega))
          · refine g_iconst F (v := 1) dX6_fill_99 (by decide) ?_
            refine g_goto F 104 dX6_fill_100 (by decide) ?_
            refine g_ior F dX6_fill_104 ?_
            refine gp3_wasLess F iX6_fill_3 hq (by decide +kernel) (bit_or (orI_bit (leB_bit M r t c) i) (by first | exact bit_0 | exact bit_1)) dX6_fill_105 ?_
            try simp only [bx_uu, va_up_self, fiR_2, fiR_3]
            refine g_iinc F (lv2 := [(4, _), (0, _), (1, _), (2, _), (3, _)]) dX6_fill_108 0 rfl (nI_1 _) (by decide) rfl ?_
            refine g_goto F 32 dX6_fill_111 (by decide) ?_
            refine g_lv (lv2 := [(4, _), (0, _), (1, _), (2, _), (3, _)]) [0, 1, 2, 3, 4] rfl ?_
            exact g_is (by simp only [orI, grB, leB, h3, h4, if_true, if_false] <;> rfl) rfl (ihi (i + 1) (by omega))
  refine g_lv (lv2 := [(4, _), (0, _), (1, _), (2, _), (3, _)]) [0, 1, 2, 3, 4] rfl ?_
  exact g_is rfl rfl (LP (p - 0) (0) (by omega))
