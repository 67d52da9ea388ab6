abbrev upC (f g : Nat → Int32) (m : Int32) (i : Nat) : Prop := g 9 < g 8 ∧ (48 ≤ atR f g ∧ atR f g ≤ 57) ∧ (nI i = 0 ∨ 0 < g 10) ∧ 10 * g 10 + atR f g - 48 ≤ m
def upS (f g : Nat → Int32) : Nat → Int32 := upd (upd g 10 (10 * g 10 + atR f g - 48)) 9 (g 9 + 1)
def upG (f g : Nat → Int32) : Nat → Nat → Int32
  | 0 => upd g 10 0
  | i + 1 => upS f (upG f g i)
def upE (f : Nat → Int32) (m : Int32) : Nat → Nat → (Nat → Int32) → Nat × (Nat → Int32)
  | 0, i, g => (i, g)
  | n + 1, i, g => if upC f g m i then upE f m n (i + 1) (upS f g) else (i, g)
/-- a number up to m is read -/
def upP (f g : Nat → Int32) (m : Int32) : PR := (decide (0 < (upE f m 61 0 (upd g 10 0)).1), (upE f m 61 0 (upd g 10 0)).2)
theorem upG_8 (f g : Nat → Int32) : ∀ i, upG f g i 8 = g 8
  | 0 => rfl
  | i + 1 => upG_8 f g i
theorem upG_9 {f g : Nat → Int32} {a : Nat} (e : g 9 = nI a) : ∀ i, upG f g i 9 = nI (a + i)
  | 0 => e
  | i + 1 => by
    show upG f g i 9 + 1 = _
    rw [upG_9 e i]; exact nI_add (a + i) 1
theorem upE_no {f g : Nat → Int32} {m : Int32} {n i : Nat} (hn : 1 ≤ n) (h : ¬ upC f g m i) : upE f m n i g = (i, g) := by
  obtain ⟨j, rfl⟩ : ∃ j, n = j + 1 := ⟨n - 1, by omega⟩
  exact if_neg h
theorem upE_yes {f g : Nat → Int32} {m : Int32} {n i : Nat} (h : upC f g m i) : upE f m (n + 1) i g = upE f m n (i + 1) (upS f g) := if_pos h
theorem b2_pos {E : Nat × (Nat → Int32)} {i : Nat} {g : Nat → Int32} (e : (i, g) = E) (h : ¬ nI i ≤ 0) : 0 < E.1 := by
  rw [← e]
  refine Nat.pos_of_ne_zero (fun z => h ?_)
  show nI i ≤ 0
  rw [show i = 0 from z]; decide
theorem b2_zer {E : Nat × (Nat → Int32)} {i : Nat} {g : Nat → Int32} (e : (i, g) = E) (h : nI i ≤ 0) (hi : i < 1000) : ¬ 0 < E.1 := by
  rw [← e]
  have := (nI_leI (a := i) (b := 0) (by omega) (by decide)).mp h
  show ¬ 0 < i
  omega

abbrev rmX9_upTo : Room := { frames := 1, cells := 0, slots := 0, locals := 22 }
theorem iX9_upTo_9 : ∀ w ∈ u_ws RX9 TX9 15, w ∈ wsX9_upTo := by decide +kernel
set_option maxHeartbeats 200000 in
set_option maxRecDepth 100000 in
theorem kX9_upTo (l : Launch) {M : Mm} (hA : AL (M 709)) (x : Int32) : Ct l yX9_upTo wsX9_upTo rmX9_upTo (fun B => [.ref (B + 709), .int x]) M (fun _ v u => v = some (.int (b2i ((upP (M 715) (M 709) x).1 = true))) ∧ u = va_up M 709 (upP (M 715) (M 709) x).2) := by
  refine Ct.ofI (own := RX9) (by decide +kernel) rfl rfl (fun B => Nat.le_of_ble_eq_true rfl) ?_
  intro pp ee ss mm aa bb me c9 DD ca B Tl AA QQ F K
  show G pp l ee rmX9_upTo ss mm aa bb me c9 QQ DD ca B Tl AA 3 0 0 M 0 [(0, .ref (B + 709)), (1, .int x)] []
  obtain ⟨a, L, haL, hL, ea, eL⟩ := hA
  obtain ⟨EE, hEE⟩ : ∃ E, upE (M 715) x 61 0 (upd (M 709) 10 0) = E := ⟨_, rfl⟩
  refine g_iconst F (v := 0) dX9_upTo_0 (by decide) ?_
  refine g_istore_n F (lv2 := [(2, _), (0, _), (1, _)]) dX9_upTo_1 rfl (by decide) rfl ?_
  refine g_aload_n F dX9_upTo_2 rfl 1 rfl ?_
  refine g_iconst F (v := 0) dX9_upTo_3 (by decide) ?_
  refine gp9_number F iX9_upTo_9 r709 (by decide +kernel) dX9_upTo_4 ?_
  have LP : ∀ (ni i : Nat), i + ni = (L - a) → upE (M 715) x (61 - i) i (upG (M 715) (M 709) i) = EE → G pp l ee rmX9_upTo ss mm aa bb me c9 QQ DD ca B Tl AA 3 0 0 (va_up M 709 (upG (M 715) (M 709) i)) 7 [(2, .int (nI i)), (0, .ref (B + 709)), (1, .int x)] [] := by
    intro ni
    induction ni with
    | zero =>
      intro i hni hyi
      refine g_aload_n F dX9_upTo_7 rfl 1 rfl ?_
      refine gg9_at F iX9_upTo_9 r709 (by decide +kernel) dX9_upTo_8 ?_
      refine g_top (y := nI (a + i)) (by rw [va_up_self]; exact upG_9 ea i) ?_
      refine g_aload_n F dX9_upTo_11 rfl 1 rfl ?_
      refine gg9_length F iX9_upTo_9 r709 (by decide +kernel) dX9_upTo_12 ?_
      refine g_top (y := nI L) (by rw [va_up_self, upG_8]; exact eL) ?_
      refine g_icmpN_ge F 112 dX9_upTo_15 (by decide) ((a + i)) (L) rfl rfl (by omega) (by omega) (fun hci => ?_) (fun hci => ?_)
      · have e0 : (i, (upG (M 715) (M 709) i)) = EE := by rw [← hyi]; exact (upE_no (by omega) (fun z => absurd z.1 (by rw [upG_9 ea, upG_8, eL]; exact fun q => absurd ((nI_ltI (by omega) (by omega)).mp q) (by omega)))).symm
        refine g_iload_n F dX9_upTo_112 rfl 0 rfl ?_
        refine g_if_le F 120 dX9_upTo_113 (by decide) (fun h6 => ?_) (fun h6 => ?_)
        · refine g_iconst F (v := 0) dX9_upTo_120 (by decide) ?_
          exact K _ _ _ _ dX9_upTo_121 (by first | exact (bit_z bit_0).1 | exact (bit_z bit_1).1) ⟨by first | exact congrArg (fun q => some (Value.int q)) (b2i_t (decide_eq_true (b2_pos (e0.trans hEE.symm) h6))).symm | exact congrArg (fun q => some (Value.int q)) (b2i_f (fun z => b2_zer (e0.trans hEE.symm) h6 (by omega) (of_decide_eq_true z))).symm, by rw [upP, hEE, ← e0]⟩
        · refine g_iconst F (v := 1) dX9_upTo_116 (by decide) ?_
          refine g_goto F 121 dX9_upTo_117 (by decide) ?_
          exact K _ _ _ _ dX9_upTo_121 (by first | exact (bit_z bit_0).1 | exact (bit_z bit_1).1) ⟨by first | exact congrArg (fun q => some (Value.int q)) (b2i_t (decide_eq_true (b2_pos (e0.trans hEE.symm) h6))).symm | exact congrArg (fun q => some (Value.int q)) (b2i_f (fun z => b2_zer (e0.trans hEE.symm) h6 (by omega) (of_decide_eq_true z))).symm, by rw [upP, hEE, ← e0]⟩
      · exact absurd hci (by omega)
    | succ ni ihi =>
      intro i hni hyi
      refine g_aload_n F dX9_upTo_7 rfl 1 rfl ?_
      refine gg9_at F iX9_upTo_9 r709 (by decide +kernel) dX9_upTo_8 ?_
      refine g_top (y := nI (a + i)) (by rw [va_up_self]; exact upG_9 ea i) ?_
      refine g_aload_n F dX9_upTo_11 rfl 1 rfl ?_
      refine gg9_length F iX9_upTo_9 r709 (by decide +kernel) dX9_upTo_12 ?_
      refine g_top (y := nI L) (by rw [va_up_self, upG_8]; exact eL) ?_
      refine g_icmpN_ge F 112 dX9_upTo_15 (by decide) ((a + i)) (L) rfl rfl (by omega) (by omega) (fun hci => ?_) (fun hci => ?_)
      · exact absurd hci (by omega)
      · refine g_aload_n F dX9_upTo_18 rfl 1 rfl ?_
        refine gg9_text F iX9_upTo_9 r709 (by decide +kernel) dX9_upTo_19 ?_
        refine g_aload_n F dX9_upTo_22 rfl 1 rfl ?_
        refine gg9_at F iX9_upTo_9 r709 (by decide +kernel) dX9_upTo_23 ?_
        refine g_top (y := nI (a + i)) (by rw [va_up_self]; exact upG_9 ea i) ?_
        refine g_iaload (r := 715) F a715 ((a + i)) rfl (by omega) (by decide) dX9_upTo_26 ?_
        refine g_top (y := atR (M 715) (upG (M 715) (M 709) i)) (atR_n (upG_9 ea i) (by omega)).symm ?_
        refine g_bipush F (v := 48) dX9_upTo_27 (by decide +kernel) ?_
        refine g_bipush F (v := 57) dX9_upTo_29 (by decide +kernel) ?_
        refine g_callS F (kX9_within l _ _ _) (va_cwS 3 F.1.2.2.2.2 gX9_upTo_X9_within rfl rfl rfl (by decide +kernel) ⟨Nat.le_of_ble_eq_true rfl, Nat.le_of_ble_eq_true rfl⟩) rfl rfl rfl (Nat.le_of_ble_eq_true rfl) dX9_upTo_31 ⟨Nat.le_of_ble_eq_true rfl, Nat.le_of_ble_eq_true rfl⟩ (g_det ?_)
        refine g_ifB_eq F 112 dX9_upTo_34 (by decide) (fun h2 => ?_) (fun h2 => ?_)
        · have e0 : (i, (upG (M 715) (M 709) i)) = EE := by rw [← hyi]; exact (upE_no (by omega) (fun z => h2 z.2.1)).symm
          refine g_iload_n F dX9_upTo_112 rfl 0 rfl ?_
          refine g_if_le F 120 dX9_upTo_113 (by decide) (fun h6 => ?_) (fun h6 => ?_)
          · refine g_iconst F (v := 0) dX9_upTo_120 (by decide) ?_
            exact K _ _ _ _ dX9_upTo_121 (by first | exact (bit_z bit_0).1 | exact (bit_z bit_1).1) ⟨by first | exact congrArg (fun q => some (Value.int q)) (b2i_t (decide_eq_true (b2_pos (e0.trans hEE.symm) h6))).symm | exact congrArg (fun q => some (Value.int q)) (b2i_f (fun z => b2_zer (e0.trans hEE.symm) h6 (by omega) (of_decide_eq_true z))).symm, by rw [upP, hEE, ← e0]⟩
          · refine g_iconst F (v := 1) dX9_upTo_116 (by decide) ?_
            refine g_goto F 121 dX9_upTo_117 (by decide) ?_
            exact K _ _ _ _ dX9_upTo_121 (by first | exact (bit_z bit_0).1 | exact (bit_z bit_1).1) ⟨by first | exact congrArg (fun q => some (Value.int q)) (b2i_t (decide_eq_true (b2_pos (e0.trans hEE.symm) h6))).symm | exact congrArg (fun q => some (Value.int q)) (b2i_f (fun z => b2_zer (e0.trans hEE.symm) h6 (by omega) (of_decide_eq_true z))).symm, by rw [upP, hEE, ← e0]⟩
        · refine g_iload_n F dX9_upTo_37 rfl 0 rfl ?_
          refine g_if_eq F 48 dX9_upTo_38 (by decide) (fun h3 => ?_) (fun h3 => ?_)
          · refine g_bipush F (v := 10) dX9_upTo_48 (by decide +kernel) ?_
            refine g_aload_n F dX9_upTo_50 rfl 1 rfl ?_
            refine gg9_number F iX9_upTo_9 r709 (by decide +kernel) dX9_upTo_51 ?_
            refine g_top (y := (upG (M 715) (M 709) i) 10) (by rw [va_up_self]) ?_
            refine g_imul F dX9_upTo_54 ?_
            refine g_aload_n F dX9_upTo_55 rfl 1 rfl ?_
            refine gg9_text F iX9_upTo_9 r709 (by decide +kernel) dX9_upTo_56 ?_
            refine g_aload_n F dX9_upTo_59 rfl 1 rfl ?_
            refine gg9_at F iX9_upTo_9 r709 (by decide +kernel) dX9_upTo_60 ?_
            refine g_top (y := nI (a + i)) (by rw [va_up_self]; exact upG_9 ea i) ?_
            refine g_iaload (r := 715) F a715 ((a + i)) rfl (by omega) (by decide) dX9_upTo_63 ?_
            refine g_top (y := atR (M 715) (upG (M 715) (M 709) i)) (atR_n (upG_9 ea i) (by omega)).symm ?_
            refine g_iadd F dX9_upTo_64 ?_
            refine g_bipush F (v := 48) dX9_upTo_65 (by decide +kernel) ?_
            refine g_isub F dX9_upTo_67 ?_
            refine g_iload_n F dX9_upTo_68 rfl 2 rfl ?_
            refine g_icmp_gt F 112 dX9_upTo_69 (by decide) (fun h5 => ?_) (fun h5 => ?_)
            · have e0 : (i, (upG (M 715) (M 709) i)) = EE := by rw [← hyi]; exact (upE_no (by omega) (fun z => Int32.not_le.mpr h5 z.2.2.2)).symm
              refine g_iload_n F dX9_upTo_112 rfl 0 rfl ?_
              refine g_if_le F 120 dX9_upTo_113 (by decide) (fun h6 => ?_) (fun h6 => ?_)
              · refine g_iconst F (v := 0) dX9_upTo_120 (by decide) ?_
                exact K _ _ _ _ dX9_upTo_121 (by first | exact (bit_z bit_0).1 | exact (bit_z bit_1).1) ⟨by first | exact congrArg (fun q => some (Value.int q)) (b2i_t (decide_eq_true (b2_pos (e0.trans hEE.symm) h6))).symm | exact congrArg (fun q => some (Value.int q)) (b2i_f (fun z => b2_zer (e0.trans hEE.symm) h6 (by omega) (of_decide_eq_true z))).symm, by rw [upP, hEE, ← e0]⟩
              · refine g_iconst F (v := 1) dX9_upTo_116 (by decide) ?_
                refine g_goto F 121 dX9_upTo_117 (by decide) ?_
                exact K _ _ _ _ dX9_upTo_121 (by first | exact (bit_z bit_0).1 | exact (bit_z bit_1).1) ⟨by first | exact congrArg (fun q => some (Value.int q)) (b2i_t (decide_eq_true (b2_pos (e0.trans hEE.symm) h6))).symm | exact congrArg (fun q => some (Value.int q)) (b2i_f (fun z => b2_zer (e0.trans hEE.symm) h6 (by omega) (of_decide_eq_true z))).symm, by rw [upP, hEE, ← e0]⟩
            · have hc : upC (M 715) (upG (M 715) (M 709) i) x i := ⟨by rw [upG_9 ea, upG_8, eL]; exact (nI_ltI (by omega) (by omega)).mpr (by omega), h2, (by first | exact Or.inl h3 | exact Or.inr (Int32.not_le.mp h4)), Int32.not_lt.mp h5⟩
              refine g_aload_n F dX9_upTo_72 rfl 1 rfl ?_
              refine g_bipush F (v := 10) dX9_upTo_73 (by decide +kernel) ?_
              refine g_aload_n F dX9_upTo_75 rfl 1 rfl ?_
              refine gg9_number F iX9_upTo_9 r709 (by decide +kernel) dX9_upTo_76 ?_
              refine g_top (y := (upG (M 715) (M 709) i) 10) (by rw [va_up_self]) ?_
              refine g_imul F dX9_upTo_79 ?_
              refine g_aload_n F dX9_upTo_80 rfl 1 rfl ?_
              refine gg9_text F iX9_upTo_9 r709 (by decide +kernel) dX9_upTo_81 ?_
              refine g_aload_n F dX9_upTo_84 rfl 1 rfl ?_
              refine gg9_at F iX9_upTo_9 r709 (by decide +kernel) dX9_upTo_85 ?_
              refine g_top (y := nI (a + i)) (by rw [va_up_self]; exact upG_9 ea i) ?_
              refine g_iaload (r := 715) F a715 ((a + i)) rfl (by omega) (by decide) dX9_upTo_88 ?_
              refine g_top (y := atR (M 715) (upG (M 715) (M 709) i)) (atR_n (upG_9 ea i) (by omega)).symm ?_
              refine g_iadd F dX9_upTo_89 ?_
              refine g_bipush F (v := 48) dX9_upTo_90 (by decide +kernel) ?_
              refine g_isub F dX9_upTo_92 ?_
              refine gp9_number F iX9_upTo_9 r709 (by decide +kernel) dX9_upTo_93 ?_
              try simp only [bx_uu, va_up_self]
              refine g_iinc F (lv2 := [(2, _), (0, _), (1, _)]) dX9_upTo_96 0 rfl (nI_1 _) (by decide) rfl ?_
              refine g_aload_n F dX9_upTo_99 rfl 1 rfl ?_
              refine g_dup F dX9_upTo_100 rfl ?_
              refine gg9_at F iX9_upTo_9 r709 (by decide +kernel) dX9_upTo_101 ?_
              refine g_iconst F (v := 1) dX9_upTo_104 (by decide) ?_
              refine g_iadd F dX9_upTo_105 ?_
              refine gp9_at F iX9_upTo_9 r709 (by decide +kernel) dX9_upTo_106 ?_
              try simp only [bx_uu, va_up_self]
              refine g_goto F 7 dX9_upTo_109 (by decide) ?_
              refine g_lv (lv2 := [(2, _), (0, _), (1, _)]) [0, 1, 2] rfl ?_
              exact g_is rfl rfl (ihi (i + 1) (by omega) ((upE_yes (n := 61 - (i + 1)) hc).symm.trans (by rw [show 61 - (i + 1) + 1 = 61 - i by omega]; exact hyi)))
          · refine g_aload_n F dX9_upTo_41 rfl 1 rfl ?_
            refine gg9_number F iX9_upTo_9 r709 (by decide +kernel) dX9_upTo_42 ?_
            refine g_top (y := (upG (M 715) (M 709) i) 10) (by rw [va_up_self]) ?_
            refine g_if_le F 112 dX9_upTo_45 (by decide) (fun h4 => ?_) (fun h4 => ?_)
            · have e0 : (i, (upG (M 715) (M 709) i)) = EE := by rw [← hyi]; exact (upE_no (by omega) (fun z => z.2.2.1.elim h3 (fun q => Int32.not_lt.mpr h4 q))).symm
              refine g_iload_n F dX9_upTo_112 rfl 0 rfl ?_
              refine g_if_le F 120 dX9_upTo_113 (by decide) (fun h6 => ?_) (fun h6 => ?_)
              · refine g_iconst F (v := 0) dX9_upTo_120 (by decide) ?_
                exact K _ _ _ _ dX9_upTo_121 (by first | exact (bit_z bit_0).1 | exact (bit_z bit_1).1) ⟨by first | exact congrArg (fun q => some (Value.int q)) (b2i_t (decide_eq_true (b2_pos (e0.trans hEE.symm) h6))).symm | exact congrArg (fun q => some (Value.int q)) (b2i_f (fun z => b2_zer (e0.trans hEE.symm) h6 (by omega) (of_decide_eq_true z))).symm, by rw [upP, hEE, ← e0]⟩
              · refine g_iconst F (v := 1) dX9_upTo_116 (by decide) ?_
                refine g_goto F 121 dX9_upTo_117 (by decide) ?_
                exact K _ _ _ _ dX9_upTo_121 (by first | exact (bit_z bit_0).1 | exact (bit_z bit_1).1) ⟨by first | exact congrArg (fun q => some (Value.int q)) (b2i_t (decide_eq_true (b2_pos (e0.trans hEE.symm) h6))).symm | exact congrArg (fun q => some (Value.int q)) (b2i_f (fun z => b2_zer (e0.trans hEE.symm) h6 (by omega) (of_decide_eq_true z))).symm, by rw [upP, hEE, ← e0]⟩
            · refine g_bipush F (v := 10) dX9_upTo_48 (by decide +kernel) ?_
              refine g_aload_n F dX9_upTo_50 rfl 1 rfl ?_
              refine gg9_number F iX9_upTo_9 r709 (by decide +kernel) dX9_upTo_51 ?_
              refine g_top (y := (upG (M 715) (M 709) i) 10) (by rw [va_up_self]) ?_
              refine g_imul F dX9_upTo_54 ?_
              refine g_aload_n F dX9_upTo_55 rfl 1 rfl ?_
              refine gg9_text F iX9_upTo_9 r709 (by decide +kernel) dX9_upTo_56 ?_
              refine g_aload_n F dX9_upTo_59 rfl 1 rfl ?_
              refine gg9_at F iX9_upTo_9 r709 (by decide +kernel) dX9_upTo_60 ?_
              refine g_top (y := nI (a + i)) (by rw [va_up_self]; exact upG_9 ea i) ?_
              refine g_iaload (r := 715) F a715 ((a + i)) rfl (by omega) (by decide) dX9_upTo_63 ?_
              refine g_top (y := atR (M 715) (upG (M 715) (M 709) i)) (atR_n (upG_9 ea i) (by omega)).symm ?_
              refine g_iadd F dX9_upTo_64 ?_
              refine g_bipush F (v := 48) dX9_upTo_65 (by decide +kernel) ?_
              refine g_isub F dX9_upTo_67 ?_
              refine g_iload_n F dX9_upTo_68 rfl 2 rfl ?_
              refine g_icmp_gt F 112 dX9_upTo_69 (by decide) (fun h5 => ?_) (fun h5 => ?_)
              · have e0 : (i, (upG (M 715) (M 709) i)) = EE := by rw [← hyi]; exact (upE_no (by omega) (fun z => Int32.not_le.mpr h5 z.2.2.2)).symm
                refine g_iload_n F dX9_upTo_112 rfl 0 rfl ?_
                refine g_if_le F 120 dX9_upTo_113 (by decide) (fun h6 => ?_) (fun h6 => ?_)
                · refine g_iconst F (v := 0) dX9_upTo_120 (by decide) ?_
                  exact K _ _ _ _ dX9_upTo_121 (by first | exact (bit_z bit_0).1 | exact (bit_z bit_1).1) ⟨by first | exact congrArg (fun q => some (Value.int q)) (b2i_t (decide_eq_true (b2_pos (e0.trans hEE.symm) h6))).symm | exact congrArg (fun q => some (Value.int q)) (b2i_f (fun z => b2_zer (e0.trans hEE.symm) h6 (by omega) (of_decide_eq_true z))).symm, by rw [upP, hEE, ← e0]⟩
                · refine g_iconst F (v := 1) dX9_upTo_116 (by decide) ?_
                  refine g_goto F 121 dX9_upTo_117 (by decide) ?_
                  exact K _ _ _ _ dX9_upTo_121 (by first | exact (bit_z bit_0).1 | exact (bit_z bit_1).1) ⟨by first | exact congrArg (fun q => some (Value.int q)) (b2i_t (decide_eq_true (b2_pos (e0.trans hEE.symm) h6))).symm | exact congrArg (fun q => some (Value.int q)) (b2i_f (fun z => b2_zer (e0.trans hEE.symm) h6 (by omega) (of_decide_eq_true z))).symm, by rw [upP, hEE, ← e0]⟩
              · have hc : upC (M 715) (upG (M 715) (M 709) i) x i := ⟨by rw [upG_9 ea, upG_8, eL]; exact (nI_ltI (by omega) (by omega)).mpr (by omega), h2, (by first | exact Or.inl h3 | exact Or.inr (Int32.not_le.mp h4)), Int32.not_lt.mp h5⟩
                refine g_aload_n F dX9_upTo_72 rfl 1 rfl ?_
                refine g_bipush F (v := 10) dX9_upTo_73 (by decide +kernel) ?_
                refine g_aload_n F dX9_upTo_75 rfl 1 rfl ?_
                refine gg9_number F iX9_upTo_9 r709 (by decide +kernel) dX9_upTo_76 ?_
                refine g_top (y := (upG (M 715) (M 709) i) 10) (by rw [va_up_self]) ?_
                refine g_imul F dX9_upTo_79 ?_
                refine g_aload_n F dX9_upTo_80 rfl 1 rfl ?_
                refine gg9_text F iX9_upTo_9 r709 (by decide +kernel) dX9_upTo_81 ?_
                refine g_aload_n F dX9_upTo_84 rfl 1 rfl ?_
                refine gg9_at F iX9_upTo_9 r709 (by decide +kernel) dX9_upTo_85 ?_
                refine g_top (y := nI (a + i)) (by rw [va_up_self]; exact upG_9 ea i) ?_
                refine g_iaload (r := 715) F a715 ((a + i)) rfl (by omega) (by decide) dX9_upTo_88 ?_
                refine g_top (y := atR (M 715) (upG (M 715) (M 709) i)) (atR_n (upG_9 ea i) (by omega)).symm ?_
                refine g_iadd F dX9_upTo_89 ?_
                refine g_bipush F (v := 48) dX9_upTo_90 (by decide +kernel) ?_
                refine g_isub F dX9_upTo_92 ?_
                refine gp9_number F iX9_upTo_9 r709 (by decide +kernel) dX9_upTo_93 ?_
                try simp only [bx_uu, va_up_self]
                refine g_iinc F (lv2 := [(2, _), (0, _), (1, _)]) dX9_upTo_96 0 rfl (nI_1 _) (by decide) rfl ?_
                refine g_aload_n F dX9_upTo_99 rfl 1 rfl ?_
                refine g_dup F dX9_upTo_100 rfl ?_
                refine gg9_at F iX9_upTo_9 r709 (by decide +kernel) dX9_upTo_101 ?_
                refine g_iconst F (v := 1) dX9_upTo_104 (by decide) ?_
                refine g_iadd F dX9_upTo_105 ?_
                refine gp9_at F iX9_upTo_9 r709 (by decide +kernel) dX9_upTo_106 ?_
                try simp only [bx_uu, va_up_self]
                refine g_goto F 7 dX9_upTo_109 (by decide) ?_
                refine g_lv (lv2 := [(2, _), (0, _), (1, _)]) [0, 1, 2] rfl ?_
                exact g_is rfl rfl (ihi (i + 1) (by omega) ((upE_yes (n := 61 - (i + 1)) hc).symm.trans (by rw [show 61 - (i + 1) + 1 = 61 - i by omega]; exact hyi)))
  refine g_lv (lv2 := [(2, _), (0, _), (1, _)]) [0, 1, 2] rfl ?_
  exact g_is rfl rfl (LP ((L - a) - 0) (0) (by omega) hEE)
