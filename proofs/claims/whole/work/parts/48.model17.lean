theorem takes_1 {f g : Nat → Int32} {x : Int32} (h : (takesR f g x).1 = true) : (takesR f g x).2 9 = g 9 + 1 := by
  unfold takesR at *
  by_cases h1 : g 9 = g 8
  · rw [if_pos h1] at h; exact absurd h Bool.false_ne_true
  · rw [if_neg h1] at *
    by_cases h2 : atR f g = x
    · rw [if_pos h2]; rfl
    · rw [if_neg h2] at h; exact absurd h Bool.false_ne_true
theorem prG_AL2 {e : PR} (h : AL e.2) : AL (prG e) := AL_of h rfl rfl
theorem pairR_AL {f g : Nat → Int32} {m o : Int32} (r : AL g) : AL (pairR f g m o).2 := by
  unfold pairR
  split
  · exact AL_of (digR_AL (prG_AL r) : AL (digR f (prG (digR f g m)) o).2) rfl rfl
  · exact AL_of (prG_AL r) rfl rfl
theorem ptG_AL {f g : Nat → Int32} (r : AL g) : AL (ptG f g).2 := by
  unfold ptG
  have h1 : AL (prG (upP f g 23)) := prG_AL2 (upP_AL r)
  split
  · split
    · exact AL_of (digR_AL (takesR_AL h1)) rfl rfl
    · exact AL_of (takesR_AL h1) rfl rfl
  · exact AL_of h1 rfl rfl
theorem ptD_AL {f g : Nat → Int32} (r : AL g) : AL (ptD f g).2 := by
  by_cases h : 1 < oneR f g
  · obtain ⟨a, L, h1, h2, h3, h4⟩ := r
    have hl : g 9 < g 8 := by
      by_cases q : g 9 < g 8
      · exact q
      · have e : oneR f g = 1 := if_neg (fun z => q z.1)
        rw [e] at h; exact absurd h (by decide)
    have hl2 : a < L := (nI_ltI (by omega) (by omega)).mp (by rw [← h3, ← h4]; exact hl)
    refine AL_up hl2 h2 h3 h4 ?_ rfl
    show g 9 + (if 1 < oneR f g then 1 else 0) = g 9 + 1
    rw [if_pos h]
  · refine AL_of r ?_ rfl
    show g 9 + (if 1 < oneR f g then 1 else 0) = g 9
    rw [if_neg h]; exact Int32.add_zero _
theorem partR_AL {f g : Nat → Int32} (r : AL g) : AL (partR f g).2 := by
  unfold partR
  by_cases h : g 9 = g 8
  · rw [if_pos h]; exact r
  · rw [if_neg h]
    have h1 : AL (g1R f g) := by
      obtain ⟨a, L, q1, q2, q3, q4⟩ := r
      exact AL_up (AL_lt q1 q2 q3 q4 h) q2 q3 q4 rfl rfl
    unfold partS
    split
    · exact ptD_AL h1
    · split
      · exact prG_AL2 (upP_AL h1)
      · split
        · exact pairR_AL h1
        · split
          · exact pairR_AL h1
          · split
            · exact ptG_AL h1
            · split
              · exact pairR_AL h1
              · split
                · exact prG_AL2 (digR_AL h1)
                · refine AL_of r ?_ rfl
                  show g 9 + 1 - 1 = g 9
                  exact Int32.add_sub_cancel _ _
/-- the first place where the text is not as told -/
def faE (f : Nat → Int32) : Nat → (Nat → Int32) → Int32 × (Nat → Int32)
  | 0, g => (0, g)
  | n + 1, g => if (partR f g).1 = true then (if (takesR f (partR f g).2 59).1 = true then faE f n (takesR f (partR f g).2 59).2 else (if (takesR f (partR f g).2 59).2 9 < (takesR f (partR f g).2 59).2 8 then (takesR f (partR f g).2 59).2 9 else -1, (takesR f (partR f g).2 59).2)) else ((partR f g).2 9, (partR f g).2)
def faG (f g : Nat → Int32) : Nat → Nat → Int32
  | 0 => upd g 9 0
  | i + 1 => (takesR f (partR f (faG f g i)).2 59).2
theorem part_60 {f g : Nat → Int32} {b : Nat} (r : AL g) (e : g 9 = nI b) (hb : 60 ≤ b) (hb3 : b < 1000) : ¬ (partR f g).1 = true := by
  obtain ⟨a, L, q1, q2, q3, q4⟩ := r
  have h : g 9 = g 8 := by
    have := nI_inj (by omega) (by omega) (q3.symm.trans e)
    rw [q3, q4, show a = L by omega]
  unfold partR
  rw [if_pos h]; exact Bool.false_ne_true
theorem fa_no {f g : Nat → Int32} {n : Nat} {EE : Int32 × (Nat → Int32)} (h1 : ¬ (partR f g).1 = true) (e : faE f (n + 1) g = EE) : EE = ((partR f g).2 9, (partR f g).2) := by rw [← e, faE, if_neg h1]
theorem fa_end {f g : Nat → Int32} {n : Nat} {EE : Int32 × (Nat → Int32)} (h1 : (partR f g).1 = true) (h2 : ¬ (takesR f (partR f g).2 59).1 = true) (e : faE f (n + 1) g = EE) : EE = (if (takesR f (partR f g).2 59).2 9 < (takesR f (partR f g).2 59).2 8 then (takesR f (partR f g).2 59).2 9 else -1, (takesR f (partR f g).2 59).2) := by rw [← e, faE, if_pos h1, if_neg h2]
theorem fa_on {f g : Nat → Int32} {n : Nat} {EE : Int32 × (Nat → Int32)} (h1 : (partR f g).1 = true) (h2 : (takesR f (partR f g).2 59).1 = true) (e : faE f (n + 1) g = EE) : faE f n (takesR f (partR f g).2 59).2 = EE := by rw [← e, faE, if_pos h1, if_pos h2]
theorem fa_bd {f g : Nat → Int32} {i : Nat} (r : AL g) (hb : ∃ b, i ≤ b ∧ b ≤ 60 ∧ g 9 = nI b) (h2 : (takesR f (partR f g).2 59).1 = true) : ∃ b, i + 1 ≤ b ∧ b ≤ 60 ∧ (takesR f (partR f g).2 59).2 9 = nI b := by
  obtain ⟨b, h1, h3, e⟩ := hb
  obtain ⟨c, hc, hc2, ec⟩ := partR_Up f g b e
  have e9 : (takesR f (partR f g).2 59).2 9 = nI (c + 1) := by rw [takes_1 h2, ec]; exact nI_add c 1
  obtain ⟨a, L, q1, q2, q3, q4⟩ := takesR_AL (f := f) (m := 59) (partR_AL (f := f) r)
  have q := nI_inj (a := a) (b := c + 1) (by omega) (by omega) (q3.symm.trans e9)
  exact ⟨c + 1, by omega, by omega, e9⟩
theorem fa_up {f g : Nat → Int32} {n i : Nat} {EE : Int32 × (Nat → Int32)} (r : AL g) (hb : ∃ b, i ≤ b ∧ b ≤ 60 ∧ g 9 = nI b) (h1 : (partR f g).1 = true) (h2 : (takesR f (partR f g).2 59).1 = true) (e : faE f (n + 1) g = EE) : AL (takesR f (partR f g).2 59).2 ∧ (∃ b, i + 1 ≤ b ∧ b ≤ 60 ∧ (takesR f (partR f g).2 59).2 9 = nI b) ∧ faE f n (takesR f (partR f g).2 59).2 = EE := ⟨takesR_AL (partR_AL r), fa_bd r hb h2, fa_on h1 h2 e⟩

abbrev rmX9_fault : Room := { frames := 4, cells := 0, slots := 0, locals := 87 }
theorem iX9_fault_9 : ∀ w ∈ u_ws RX9 TX9 15, w ∈ wsX9_fault := by decide +kernel
set_option maxHeartbeats 4000000 in
set_option maxRecDepth 100000 in
theorem kX9_fault (l : Launch) {M : Mm} {L : Nat} (hL60 : L ≤ 60) (hL : M 709 8 = nI L) : Ct l yX9_fault wsX9_fault rmX9_fault (fun B => [.ref (B + 709)]) M (fun _ v u => v = some (.int (faE (M 715) 61 (upd (thM M 0 709) 9 0)).1) ∧ u = va_up (thM M 0) 709 (faE (M 715) 61 (upd (thM M 0 709) 9 0)).2) := by
  refine Ct.ofI (own := RX9) (by decide +kernel) rfl rfl (fun B => Nat.le_of_ble_eq_true rfl) ?_
  intro pp ee ss mm aa bb me c9 DD ca B Tl AA QQ F K
  show G pp l ee rmX9_fault ss mm aa bb me c9 QQ DD ca B Tl AA 2 0 0 M 0 [(0, .ref (B + 709))] []
  generalize hEE : faE (M 715) 61 (upd (thM M 0 709) 9 0) = EE at K
  refine g_aload_n F dX9_fault_0 rfl 0 rfl ?_
  refine g_iconst F (v := 0) dX9_fault_1 (by decide) ?_
  refine gp9_thrown F iX9_fault_9 r709 (by decide +kernel) dX9_fault_2 ?_
  refine g_mem (show va_up M 709 (upd (M 709) 0 0) = thM M 0 from rfl) ?_
  refine g_aload_n F dX9_fault_5 rfl 0 rfl ?_
  refine g_iconst F (v := 0) dX9_fault_6 (by decide) ?_
  refine gp9_at F iX9_fault_9 r709 (by decide +kernel) dX9_fault_7 ?_
  refine g_mem (show _ = va_up (thM M 0) 709 (faG (M 715) (thM M 0 709) 0) from rfl) ?_
  refine g_iconst F (v := 1) dX9_fault_10 (by decide) ?_
  refine g_istore_n F (lv2 := [(1, _), (0, _)]) dX9_fault_11 rfl (by decide) rfl ?_
  refine g_iload_n F dX9_fault_12 rfl 0 rfl ?_
  refine g_if_eq F 38 dX9_fault_13 (by decide) (fun h2 => ?_) (fun h2 => ?_)
  · exact absurd h2 (by decide)
  · have LP : ∀ (ni i : Nat), i + ni = 60 → (AL (faG (M 715) (thM M 0 709) i) ∧ (∃ b, i ≤ b ∧ b ≤ 60 ∧ (faG (M 715) (thM M 0 709) i) 9 = nI b) ∧ faE (M 715) (61 - i) (faG (M 715) (thM M 0 709) i) = EE) → G pp l ee rmX9_fault ss mm aa bb me c9 QQ DD ca B Tl AA 2 0 0 (va_up (thM M 0) 709 (faG (M 715) (thM M 0 709) i)) 16 [(0, .ref (B + 709)), (1, .int 1)] [] := by
      intro ni
      induction ni with
      | zero =>
        intro i hni hyi
        refine g_aload_n F dX9_fault_16 rfl 0 rfl ?_
        refine g_callV F (kX9_part l (M := va_up (thM M 0) 709 (faG (M 715) (thM M 0 709) i)) (by rw [va_up_self]; exact hyi.1) ) (cwV 0 F.1.2.2.2.2 gX9_fault_X9_part rfl rfl rfl (by decide +kernel) ⟨Nat.le_of_ble_eq_true rfl, Nat.le_of_ble_eq_true rfl⟩) r709 (by decide) rfl rfl rfl rfl (Nat.le_of_ble_eq_true rfl) dX9_fault_17 ⟨Nat.le_of_ble_eq_true rfl, Nat.le_of_ble_eq_true rfl⟩ (g_det ?_)
        refine g_mem (show _ = va_up (thM M 0) 709 (partR (M 715) (faG (M 715) (thM M 0 709) i) ).2 by rw [bx_uu, va_up_self]; rfl) ?_
        refine g_top (show _ = b2i ((partR (M 715) (faG (M 715) (thM M 0 709) i) ).1 = true) by rw [va_up_self]; rfl) ?_
        refine g_ifB_ne F 28 dX9_fault_20 (by decide) (fun h1 => ?_) (fun h1 => ?_)
        · exact absurd h1 (by obtain ⟨b, hb, hb6, eb⟩ := hyi.2.1; exact part_60 hyi.1 eb (by omega) (by omega))
        · have e0 : EE = ((partR (M 715) (faG (M 715) (thM M 0 709) i)).2 9, (partR (M 715) (faG (M 715) (thM M 0 709) i)).2) := fa_no (n := 60 - i) (EE := EE) h1 (by rw [show 60 - i + 1 = 61 - i by omega]; exact hyi.2.2)
          refine g_aload_n F dX9_fault_23 rfl 0 rfl ?_
          refine gg9_at F iX9_fault_9 r709 (by decide +kernel) dX9_fault_24 ?_
          refine g_top (y := (partR (M 715) (faG (M 715) (thM M 0 709) i)).2 9) (by rw [va_up_self]) ?_
          exact K _ _ _ _ dX9_fault_27 rfl ⟨by rw [e0], by rw [e0]⟩
      | succ ni ihi =>
        intro i hni hyi
        refine g_aload_n F dX9_fault_16 rfl 0 rfl ?_
        refine g_callV F (kX9_part l (M := va_up (thM M 0) 709 (faG (M 715) (thM M 0 709) i)) (by rw [va_up_self]; exact hyi.1) ) (cwV 0 F.1.2.2.2.2 gX9_fault_X9_part rfl rfl rfl (by decide +kernel) ⟨Nat.le_of_ble_eq_true rfl, Nat.le_of_ble_eq_true rfl⟩) r709 (by decide) rfl rfl rfl rfl (Nat.le_of_ble_eq_true rfl) dX9_fault_17 ⟨Nat.le_of_ble_eq_true rfl, Nat.le_of_ble_eq_true rfl⟩ (g_det ?_)
        refine g_mem (show _ = va_up (thM M 0) 709 (partR (M 715) (faG (M 715) (thM M 0 709) i) ).2 by rw [bx_uu, va_up_self]; rfl) ?_
        refine g_top (show _ = b2i ((partR (M 715) (faG (M 715) (thM M 0 709) i) ).1 = true) by rw [va_up_self]; rfl) ?_
        refine g_ifB_ne F 28 dX9_fault_20 (by decide) (fun h1 => ?_) (fun h1 => ?_)
        · refine g_aload_n F dX9_fault_28 rfl 0 rfl ?_
          refine g_bipush F (v := 59) dX9_fault_29 (by decide +kernel) ?_
          refine g_callV F (kX9_takes l (M := va_up (thM M 0) 709 (partR (M 715) (faG (M 715) (thM M 0 709) i)).2) (by rw [va_up_self]; exact (partR_AL hyi.1)) _) (cwV 1 F.1.2.2.2.2 gX9_fault_X9_takes rfl rfl rfl (by decide +kernel) ⟨Nat.le_of_ble_eq_true rfl, Nat.le_of_ble_eq_true rfl⟩) r709 (by decide) rfl rfl rfl rfl (Nat.le_of_ble_eq_true rfl) dX9_fault_31 ⟨Nat.le_of_ble_eq_true rfl, Nat.le_of_ble_eq_true rfl⟩ (g_det ?_)
          refine g_mem (show _ = va_up (thM M 0) 709 (takesR (M 715) (partR (M 715) (faG (M 715) (thM M 0 709) i)).2 59).2 by rw [bx_uu, va_up_self]; rfl) ?_
          refine g_top (show _ = b2i ((takesR (M 715) (partR (M 715) (faG (M 715) (thM M 0 709) i)).2 59).1 = true) by rw [va_up_self]; rfl) ?_
          refine g_istore_n F (lv2 := [(1, _), (0, _)]) dX9_fault_34 rfl (by decide) rfl ?_
          refine g_goto F 12 dX9_fault_35 (by decide) ?_
          refine g_iload_n F dX9_fault_12 rfl 0 rfl ?_
          refine g_ifB_eq F 38 dX9_fault_13 (by decide) (fun h2 => ?_) (fun h2 => ?_)
          · have e0 := fa_end (n := 60 - i) (EE := EE) h1 h2 (by rw [show 60 - i + 1 = 61 - i by omega]; exact hyi.2.2)
            refine g_aload_n F dX9_fault_38 rfl 1 rfl ?_
            refine gg9_at F iX9_fault_9 r709 (by decide +kernel) dX9_fault_39 ?_
            refine g_top (y := (takesR (M 715) (partR (M 715) (faG (M 715) (thM M 0 709) i)).2 59).2 9) (by rw [va_up_self]) ?_
            refine g_aload_n F dX9_fault_42 rfl 1 rfl ?_
            refine gg9_length F iX9_fault_9 r709 (by decide +kernel) dX9_fault_43 ?_
            refine g_top (y := (takesR (M 715) (partR (M 715) (faG (M 715) (thM M 0 709) i)).2 59).2 8) (by rw [va_up_self]) ?_
            refine g_icmp_ge F 56 dX9_fault_46 (by decide) (fun h3 => ?_) (fun h3 => ?_)
            · refine g_iconst F (v := -1) dX9_fault_56 (by decide) ?_
              exact K _ _ _ _ dX9_fault_57 rfl ⟨by rw [e0]; first | (rw [if_neg (Int32.not_lt.mpr h3)]; done) | (rw [if_pos (Int32.not_le.mp h3)]; done), by rw [e0]⟩
            · refine g_aload_n F dX9_fault_49 rfl 1 rfl ?_
              refine gg9_at F iX9_fault_9 r709 (by decide +kernel) dX9_fault_50 ?_
              refine g_top (y := (takesR (M 715) (partR (M 715) (faG (M 715) (thM M 0 709) i)).2 59).2 9) (by rw [va_up_self]) ?_
              refine g_goto F 57 dX9_fault_53 (by decide) ?_
              exact K _ _ _ _ dX9_fault_57 rfl ⟨by rw [e0]; first | (rw [if_neg (Int32.not_lt.mpr h3)]; done) | (rw [if_pos (Int32.not_le.mp h3)]; done), by rw [e0]⟩
          · refine g_lv (lv2 := [(0, _), (1, _)]) [1, 0] rfl ?_
            exact g_is rfl (by rw [b2i_t h2]) (ihi (i + 1) (by omega) (by have q9 := fa_up (n := 60 - i) (EE := EE) hyi.1 hyi.2.1 h1 h2 (by rw [show 60 - i + 1 = 61 - i by omega]; exact hyi.2.2); rw [show 61 - (i + 1) = 60 - i by omega]; exact q9))
        · have e0 : EE = ((partR (M 715) (faG (M 715) (thM M 0 709) i)).2 9, (partR (M 715) (faG (M 715) (thM M 0 709) i)).2) := fa_no (n := 60 - i) (EE := EE) h1 (by rw [show 60 - i + 1 = 61 - i by omega]; exact hyi.2.2)
          refine g_aload_n F dX9_fault_23 rfl 0 rfl ?_
          refine gg9_at F iX9_fault_9 r709 (by decide +kernel) dX9_fault_24 ?_
          refine g_top (y := (partR (M 715) (faG (M 715) (thM M 0 709) i)).2 9) (by rw [va_up_self]) ?_
          exact K _ _ _ _ dX9_fault_27 rfl ⟨by rw [e0], by rw [e0]⟩
    refine g_lv (lv2 := [(0, _), (1, _)]) [1, 0] rfl ?_
    exact g_is rfl rfl (LP (60 - 0) (0) (by omega) ⟨⟨0, L, by omega, hL60, rfl, hL⟩, ⟨0, by omega, by omega, rfl⟩, hEE⟩)
