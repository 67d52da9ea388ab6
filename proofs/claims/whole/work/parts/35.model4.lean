/-- a tick, by the row alone -/
def tkF (f : Nat → Int32) : Nat → Int32 := tkR f (f 74).toNatClampNeg (f 72).toNatClampNeg
def psR (f : Nat → Int32) : Nat → Nat → Int32
  | 0 => f
  | i + 1 => tkF (psR f i)
def RW (f : Nat → Int32) : Prop := ∃ t p n, RV f t p n
theorem tkF_is {f : Nat → Int32} {t p n : Nat} (r : RV f t p n) : tkF f = tkR f t p := by
  obtain ⟨a1, a2, a3, a4, a5, a6, a7, a8, a9⟩ := r
  rw [tkF, a2, a5, nI_clamp (by omega), nI_clamp (by omega)]
theorem tkF_RW {f : Nat → Int32} (r : RW f) : RW (tkF f) := by
  obtain ⟨t, p, n, h⟩ := r
  rw [tkF_is h]
  obtain ⟨t2, n2, h2⟩ := tkR_RV h
  exact ⟨t2, p, n2, h2⟩
theorem psR_RW {f : Nat → Int32} (r : RW f) : ∀ i, RW (psR f i)
  | 0 => r
  | i + 1 => tkF_RW (psR_RW r i)
def shW (h : Nat → Int32) (n : Nat) : Nat → Int32 := fun j => if j < n then h (j + 1804) else h j
theorem shW_0 (h : Nat → Int32) : shW h 0 = h := by funext j; exact if_neg (by omega)
theorem shW_up (h : Nat → Int32) (i : Nat) : upd (shW h i) i (shW h i (i + 1804)) = shW h (i + 1) := by
  funext j; unfold upd shW
  by_cases e : j = i
  · subst e; rw [if_pos rfl, if_neg (by omega), if_pos (by omega)]
  · rw [if_neg e]
    by_cases h2 : j < i
    · rw [if_pos h2, if_pos (by omega)]
    · rw [if_neg h2, if_neg (by omega)]
/-- f written into h from a on -/
def wrW (h : Nat → Int32) (a : Nat) (f : Nat → Int32) (n : Nat) : Nat → Int32 := fun j => if a ≤ j ∧ j < a + n then f (j - a) else h j
theorem wrW_0 (h : Nat → Int32) (a : Nat) (f : Nat → Int32) : wrW h a f 0 = h := by funext j; exact if_neg (by omega)
theorem wrW_up (h : Nat → Int32) (a : Nat) (f : Nat → Int32) (i : Nat) : upd (wrW h a f i) (a + i) (f i) = wrW h a f (i + 1) := by
  funext j; unfold upd wrW
  by_cases e : j = a + i
  · subst e; rw [if_pos rfl, if_pos (by omega), show a + i - a = i by omega]
  · rw [if_neg e]
    by_cases h2 : a ≤ j ∧ j < a + i
    · rw [if_pos h2, if_pos (by omega)]
    · rw [if_neg h2, if_neg (by omega)]
theorem rec_mem (M : Mm) (a b c d : Nat → Int32) : va_up (va_up (va_up (va_up M 711 a) 709 b) 711 c) 709 d = va_up (va_up M 711 c) 709 d := by
  funext j
  by_cases h1 : j = 709
  · subst h1; simp [va_up]
  · by_cases h2 : j = 711
    · subst h2; simp [va_up]
    · simp [va_up, h1, h2]
/-- the row is recorded, when the history holds s rows -/
def hsW (h f : Nat → Int32) (s : Nat) : Nat → Int32 := if s = 6 then wrW (shW h 9020) (5 * 1804) f 1804 else wrW h (s * 1804) f 1804
def rcM (M : Mm) (s : Nat) : Mm := va_up (va_up M 711 (hsW (M 711) (M 710) s)) 709 (upd (M 709) 3 (nI (min s 5 + 1)))
def thM (M : Mm) (x : Int32) : Mm := va_up M 709 (upd (M 709) 0 x)
theorem thM_2 (M : Mm) (x y : Int32) : thM (thM M x) y = thM M y := by unfold thM; rw [bx_uu, va_up_self, upd2]

abbrev rmX9_passes : Room := { frames := 4, cells := 0, slots := 0, locals := 94 }
theorem iX9_passes_9 : ∀ w ∈ u_ws RX9 TX9 15, w ∈ wsX9_passes := by decide +kernel
set_option maxHeartbeats 300000 in
set_option maxRecDepth 100000 in
theorem kX9_passes (l : Launch) {M : Mm} {k : Nat} (hk : k < 1000) (hW : RW (M 710)) : Ct l yX9_passes wsX9_passes rmX9_passes (fun B => [.ref (B + 709), .int (nI k)]) M (fun _ v u => v = some (.int (psR (M 710) k 75 - M 710 75)) ∧ u = va_up M 710 (psR (M 710) k)) := by
  refine Ct.ofI (own := RX9) (by decide +kernel) rfl rfl (fun B => Nat.le_of_ble_eq_true rfl) ?_
  intro pp ee ss mm aa bb me c9 DD ca B Tl AA QQ F K
  show G pp l ee rmX9_passes ss mm aa bb me c9 QQ DD ca B Tl AA 4 0 0 M 0 [(0, .ref (B + 709)), (1, .int (nI k))] []
  refine g_aload_n F dX9_passes_0 rfl 0 rfl ?_
  refine gg9_state F iX9_passes_9 r709 (by decide +kernel) dX9_passes_1 ?_
  refine g_bipush F (v := 75) dX9_passes_4 (by decide +kernel) ?_
  refine g_iaload (r := 710) F a710 (75) rfl (by omega) (by decide) dX9_passes_6 ?_
  refine g_istore_n F (lv2 := [(2, _), (0, _), (1, _)]) dX9_passes_7 rfl (by decide) rfl ?_
  refine g_iconst F (v := 0) dX9_passes_8 (by decide) ?_
  refine g_istore_n F (lv2 := [(3, _), (2, _), (0, _), (1, _)]) dX9_passes_9 rfl (by decide) rfl ?_
  have LP : ∀ (ni i : Nat), i + ni = k → G pp l ee rmX9_passes ss mm aa bb me c9 QQ DD ca B Tl AA 4 0 0 (va_up M 710 (psR (M 710) i)) 10 [(3, .int (nI i)), (0, .ref (B + 709)), (1, .int (nI k)), (2, .int (M 710 75))] [] := by
    intro ni
    induction ni with
    | zero =>
      intro i hni
      refine g_iload_n F dX9_passes_10 rfl 0 rfl ?_
      refine g_iload_n F dX9_passes_11 rfl 2 rfl ?_
      refine g_icmpN_ge F 25 dX9_passes_12 (by decide) (i) (k) rfl rfl (by omega) (by omega) (fun hci => ?_) (fun hci => ?_)
      · obtain rfl : k = i := by omega
        refine g_aload_n F dX9_passes_25 rfl 1 rfl ?_
        refine gg9_state F iX9_passes_9 r709 (by decide +kernel) dX9_passes_26 ?_
        refine g_bipush F (v := 75) dX9_passes_29 (by decide +kernel) ?_
        refine g_iaload (r := 710) F a710 (75) rfl (by omega) (by decide) dX9_passes_31 ?_
        refine g_iload_n F dX9_passes_32 rfl 3 rfl ?_
        refine g_isub F dX9_passes_33 ?_
        exact K _ _ _ _ dX9_passes_34 rfl ⟨by rw [va_up_self], rfl⟩
      · exact absurd hci (by omega)
    | succ ni ihi =>
      intro i hni
      obtain ⟨t, p, n, hR⟩ := psR_RW hW i
      refine g_iload_n F dX9_passes_10 rfl 0 rfl ?_
      refine g_iload_n F dX9_passes_11 rfl 2 rfl ?_
      refine g_icmpN_ge F 25 dX9_passes_12 (by decide) (i) (k) rfl rfl (by omega) (by omega) (fun hci => ?_) (fun hci => ?_)
      · exact absurd hci (by omega)
      · refine g_aload_n F dX9_passes_15 rfl 1 rfl ?_
        refine g_callV F (kX9_tick l (M := va_up M 710 (psR (M 710) i)) (t := t) (p := p) (n := n) (by rw [va_up_self]; exact hR)) (cwV 0 F.1.2.2.2.2 gX9_passes_X9_tick rfl rfl rfl (by decide +kernel) ⟨Nat.le_of_ble_eq_true rfl, Nat.le_of_ble_eq_true rfl⟩) r709 (by decide) rfl rfl rfl rfl (Nat.le_of_ble_eq_true rfl) dX9_passes_16 ⟨Nat.le_of_ble_eq_true rfl, Nat.le_of_ble_eq_true rfl⟩ (g_det ?_)
        try simp only [bx_uu, va_up_self]
        rw [← tkF_is hR]
        refine g_iinc F (lv2 := [(3, _), (0, _), (1, _), (2, _)]) dX9_passes_19 0 rfl (nI_1 _) (by decide) rfl ?_
        refine g_goto F 10 dX9_passes_22 (by decide) ?_
        refine g_lv (lv2 := [(3, _), (0, _), (1, _), (2, _)]) [0, 1, 2, 3] rfl ?_
        exact g_is rfl rfl (ihi (i + 1) (by omega))
  refine g_lv (lv2 := [(3, _), (0, _), (1, _), (2, _)]) [0, 2, 3, 1] rfl ?_
  exact g_is (up_id M 710).symm rfl (LP (k - 0) (0) (by omega))

abbrev rmX9_record : Room := { frames := 0, cells := 0, slots := 0, locals := 0 }
theorem iX9_record_9 : ∀ w ∈ u_ws RX9 TX9 15, w ∈ wsX9_record := by decide +kernel
set_option maxHeartbeats 300000 in
set_option maxRecDepth 100000 in
theorem kX9_record (l : Launch) {M : Mm} {s : Nat} (hs6 : s ≤ 6) (hs : M 709 3 = nI s) : Ct l yX9_record wsX9_record rmX9_record (fun B => [.ref (B + 709)]) M (fun _ v u => v = none ∧ u = rcM M s) := by
  refine Ct.ofV (own := RX9) (by decide +kernel) rfl rfl (fun B => Nat.le_of_ble_eq_true rfl) ?_
  intro pp ee ss mm aa bb me c9 DD ca B Tl AA QQ F K
  show G pp l ee rmX9_record ss mm aa bb me c9 QQ DD ca B Tl AA 2 0 0 M 0 [(0, .ref (B + 709))] []
  refine g_aload_n F dX9_record_0 rfl 0 rfl ?_
  refine gg9_states F iX9_record_9 r709 (by decide +kernel) dX9_record_1 ?_
  refine g_top hs ?_
  refine g_bipush F (v := 6) dX9_record_4 (by decide +kernel) ?_
  refine g_icmpN_ne F 50 dX9_record_6 (by decide) (s) (6) rfl rfl (by omega) (by omega) (fun h1 => ?_) (fun h1 => ?_)
  · refine g_iconst F (v := 0) dX9_record_50 (by decide) ?_
    refine g_istore_n F (lv2 := [(1, _), (0, _)]) dX9_record_51 rfl (by decide) rfl ?_
    have LQ : ∀ (ni i : Nat), i + ni = 1804 → G pp l ee rmX9_record ss mm aa bb me c9 QQ DD ca B Tl AA 2 0 0 (va_up M 711 (wrW (M 711) (s * 1804) (M 710) i)) 52 [(1, .int (nI i)), (0, .ref (B + 709))] [] := by
      intro ni
      induction ni with
      | zero =>
        intro i hni
        refine g_iload_n F dX9_record_52 rfl 0 rfl ?_
        refine g_sipush F (v := 1804) dX9_record_53 (by decide +kernel) ?_
        refine g_icmpN_ge F 86 dX9_record_56 (by decide) (i) (1804) rfl rfl (by omega) (by omega) (fun hci => ?_) (fun hci => ?_)
        · obtain rfl : i = 1804 := by omega
          refine g_aload_n F dX9_record_86 rfl 1 rfl ?_
          refine g_dup F dX9_record_87 rfl ?_
          refine gg9_states F iX9_record_9 r709 (by decide +kernel) dX9_record_88 ?_
          refine g_top (y := nI s) hs ?_
          refine g_iconst F (v := 1) dX9_record_91 (by decide) ?_
          refine g_iadd F dX9_record_92 ?_
          refine g_top (nI_add (s) (1)) ?_
          refine gp9_states F iX9_record_9 r709 (by decide +kernel) dX9_record_93 ?_
          exact K _ _ _ dX9_record_96 ⟨rfl, by first | (rw [rcM, hsW, if_pos rfl]; rfl) | (rw [rcM, hsW, if_neg h1, show min s 5 = s by omega]; rfl)⟩
        · exact absurd hci (by omega)
      | succ ni ihi =>
        intro i hni
        refine g_iload_n F dX9_record_52 rfl 0 rfl ?_
        refine g_sipush F (v := 1804) dX9_record_53 (by decide +kernel) ?_
        refine g_icmpN_ge F 86 dX9_record_56 (by decide) (i) (1804) rfl rfl (by omega) (by omega) (fun hci => ?_) (fun hci => ?_)
        · exact absurd hci (by omega)
        · refine g_aload_n F dX9_record_59 rfl 1 rfl ?_
          refine gg9_history F iX9_record_9 r709 (by decide +kernel) dX9_record_60 ?_
          refine g_aload_n F dX9_record_63 rfl 1 rfl ?_
          refine gg9_states F iX9_record_9 r709 (by decide +kernel) dX9_record_64 ?_
          refine g_top (y := nI s) hs ?_
          refine g_sipush F (v := 1804) dX9_record_67 (by decide +kernel) ?_
          refine g_imul F dX9_record_70 ?_
          refine g_top (pk_mul (s) (1804)) ?_
          refine g_iload_n F dX9_record_71 rfl 0 rfl ?_
          refine g_iadd F dX9_record_72 ?_
          refine g_top (nI_add ((s * 1804)) (i)) ?_
          refine g_aload_n F dX9_record_73 rfl 1 rfl ?_
          refine gg9_state F iX9_record_9 r709 (by decide +kernel) dX9_record_74 ?_
          refine g_iload_n F dX9_record_77 rfl 0 rfl ?_
          refine g_iaload (r := 710) F a710 (i) rfl (by omega) (by decide) dX9_record_78 ?_
          refine g_iastore (r := 711) F a711 (((s * 1804) + i)) rfl (by omega) (by decide) dX9_record_79 ?_
          refine g_iinc F (lv2 := [(1, _), (0, _)]) dX9_record_80 0 rfl (nI_1 _) (by decide) rfl ?_
          refine g_goto F 52 dX9_record_83 (by decide) ?_
          refine g_lv (lv2 := [(1, _), (0, _)]) [0, 1] rfl ?_
          exact g_is (by rw [bx_uu, va_up_self]; exact congrArg (va_up _ 711) (wrW_up _ _ _ _)) rfl (ihi (i + 1) (by omega))
    refine g_lv (lv2 := [(1, _), (0, _)]) [0, 1] rfl ?_
    exact g_is (by rw [wrW_0, up_id]) rfl (LQ (1804 - 0) (0) (by omega))
  · obtain rfl : 6 = s := by omega
    refine g_iconst F (v := 0) dX9_record_9 (by decide) ?_
    refine g_istore_n F (lv2 := [(1, _), (0, _)]) dX9_record_10 rfl (by decide) rfl ?_
    have LP : ∀ (ni i : Nat), i + ni = 9020 → G pp l ee rmX9_record ss mm aa bb me c9 QQ DD ca B Tl AA 2 0 0 (va_up M 711 (shW (M 711) i)) 11 [(1, .int (nI i)), (0, .ref (B + 709))] [] := by
      intro ni
      induction ni with
      | zero =>
        intro i hni
        refine g_iload_n F dX9_record_11 rfl 0 rfl ?_
        refine g_sipush F (v := 9020) dX9_record_12 (by decide +kernel) ?_
        refine g_icmpN_ge F 40 dX9_record_15 (by decide) (i) (9020) rfl rfl (by omega) (by omega) (fun hci => ?_) (fun hci => ?_)
        · obtain rfl : i = 9020 := by omega
          refine g_aload_n F dX9_record_40 rfl 1 rfl ?_
          refine g_dup F dX9_record_41 rfl ?_
          refine gg9_states F iX9_record_9 r709 (by decide +kernel) dX9_record_42 ?_
          refine g_top (y := nI 6) hs ?_
          refine g_iconst F (v := 1) dX9_record_45 (by decide) ?_
          refine g_isub F dX9_record_46 ?_
          refine g_top (pk_sub (a := 6) (b := 1) (by omega)) ?_
          refine gp9_states F iX9_record_9 r709 (by decide +kernel) dX9_record_47 ?_
          refine g_iconst F (v := 0) dX9_record_50 (by decide) ?_
          refine g_istore_n F (lv2 := [(1, _), (0, _)]) dX9_record_51 rfl (by decide) rfl ?_
          have LQ : ∀ (ni i : Nat), i + ni = 1804 → G pp l ee rmX9_record ss mm aa bb me c9 QQ DD ca B Tl AA 2 0 0 (va_up (va_up (va_up M 711 (shW (M 711) 9020)) 709 (upd (M 709) 3 (nI (6 - 1)))) 711 (wrW (shW (M 711) 9020) (5 * 1804) (M 710) i)) 52 [(1, .int (nI i)), (0, .ref (B + 709))] [] := by
            intro ni
            induction ni with
            | zero =>
              intro i hni
              refine g_iload_n F dX9_record_52 rfl 0 rfl ?_
              refine g_sipush F (v := 1804) dX9_record_53 (by decide +kernel) ?_
              refine g_icmpN_ge F 86 dX9_record_56 (by decide) (i) (1804) rfl rfl (by omega) (by omega) (fun hci => ?_) (fun hci => ?_)
              · obtain rfl : i = 1804 := by omega
                refine g_aload_n F dX9_record_86 rfl 1 rfl ?_
                refine g_dup F dX9_record_87 rfl ?_
                refine gg9_states F iX9_record_9 r709 (by decide +kernel) dX9_record_88 ?_
                refine g_top (y := nI 5) (by rfl) ?_
                refine g_iconst F (v := 1) dX9_record_91 (by decide) ?_
                refine g_iadd F dX9_record_92 ?_
                refine g_top (nI_add (5) (1)) ?_
                refine gp9_states F iX9_record_9 r709 (by decide +kernel) dX9_record_93 ?_
                rw [show (va_up (va_up (va_up M 711 (shW (M 711) 9020)) 709 (upd (M 709) 3 (nI (6 - 1)))) 711 (wrW (shW (M 711) 9020) (5 * 1804) (M 710) 1804)) 709 = upd (M 709) 3 (nI (6 - 1)) from rfl, rec_mem, upd2]
                exact K _ _ _ dX9_record_96 ⟨rfl, by first | (rw [rcM, hsW, if_pos rfl]; rfl) | (rw [rcM, hsW, if_neg h1, show min s 5 = s by omega]; rfl)⟩
              · exact absurd hci (by omega)
            | succ ni ihi =>
              intro i hni
              refine g_iload_n F dX9_record_52 rfl 0 rfl ?_
              refine g_sipush F (v := 1804) dX9_record_53 (by decide +kernel) ?_
              refine g_icmpN_ge F 86 dX9_record_56 (by decide) (i) (1804) rfl rfl (by omega) (by omega) (fun hci => ?_) (fun hci => ?_)
              · exact absurd hci (by omega)
              · refine g_aload_n F dX9_record_59 rfl 1 rfl ?_
                refine gg9_history F iX9_record_9 r709 (by decide +kernel) dX9_record_60 ?_
                refine g_aload_n F dX9_record_63 rfl 1 rfl ?_
                refine gg9_states F iX9_record_9 r709 (by decide +kernel) dX9_record_64 ?_
                refine g_top (y := nI 5) (by rfl) ?_
                refine g_sipush F (v := 1804) dX9_record_67 (by decide +kernel) ?_
                refine g_imul F dX9_record_70 ?_
                refine g_top (pk_mul (5) (1804)) ?_
                refine g_iload_n F dX9_record_71 rfl 0 rfl ?_
                refine g_iadd F dX9_record_72 ?_
                refine g_top (nI_add ((5 * 1804)) (i)) ?_
                refine g_aload_n F dX9_record_73 rfl 1 rfl ?_
                refine gg9_state F iX9_record_9 r709 (by decide +kernel) dX9_record_74 ?_
                refine g_iload_n F dX9_record_77 rfl 0 rfl ?_
                refine g_iaload (r := 710) F a710 (i) rfl (by omega) (by decide) dX9_record_78 ?_
                refine g_iastore (r := 711) F a711 (((5 * 1804) + i)) rfl (by omega) (by decide) dX9_record_79 ?_
                refine g_iinc F (lv2 := [(1, _), (0, _)]) dX9_record_80 0 rfl (nI_1 _) (by decide) rfl ?_
                refine g_goto F 52 dX9_record_83 (by decide) ?_
                refine g_lv (lv2 := [(1, _), (0, _)]) [0, 1] rfl ?_
                exact g_is (by rw [bx_uu, va_up_self]; exact congrArg (va_up _ 711) (wrW_up _ _ _ _)) rfl (ihi (i + 1) (by omega))
          refine g_lv (lv2 := [(1, _), (0, _)]) [0, 1] rfl ?_
          exact g_is (by rw [wrW_0]; funext j; by_cases h : j = 711; (subst h; rfl); exact (va_up_ne _ _ h).symm) rfl (LQ (1804 - 0) (0) (by omega))
        · exact absurd hci (by omega)
      | succ ni ihi =>
        intro i hni
        refine g_iload_n F dX9_record_11 rfl 0 rfl ?_
        refine g_sipush F (v := 9020) dX9_record_12 (by decide +kernel) ?_
        refine g_icmpN_ge F 40 dX9_record_15 (by decide) (i) (9020) rfl rfl (by omega) (by omega) (fun hci => ?_) (fun hci => ?_)
        · exact absurd hci (by omega)
        · refine g_aload_n F dX9_record_18 rfl 1 rfl ?_
          refine gg9_history F iX9_record_9 r709 (by decide +kernel) dX9_record_19 ?_
          refine g_iload_n F dX9_record_22 rfl 0 rfl ?_
          refine g_aload_n F dX9_record_23 rfl 1 rfl ?_
          refine gg9_history F iX9_record_9 r709 (by decide +kernel) dX9_record_24 ?_
          refine g_iload_n F dX9_record_27 rfl 0 rfl ?_
          refine g_sipush F (v := 1804) dX9_record_28 (by decide +kernel) ?_
          refine g_iadd F dX9_record_31 ?_
          refine g_top (nI_add (i) (1804)) ?_
          refine g_iaload (r := 711) F a711 ((i + 1804)) rfl (by omega) (by decide) dX9_record_32 ?_
          refine g_iastore (r := 711) F a711 (i) rfl (by omega) (by decide) dX9_record_33 ?_
          refine g_iinc F (lv2 := [(1, _), (0, _)]) dX9_record_34 0 rfl (nI_1 _) (by decide) rfl ?_
          refine g_goto F 11 dX9_record_37 (by decide) ?_
          refine g_lv (lv2 := [(1, _), (0, _)]) [0, 1] rfl ?_
          exact g_is (by rw [bx_uu, va_up_self, shW_up]) rfl (ihi (i + 1) (by omega))
    refine g_lv (lv2 := [(1, _), (0, _)]) [0, 1] rfl ?_
    exact g_is (by rw [shW_0, up_id]) rfl (LP (9020 - 0) (0) (by omega))
