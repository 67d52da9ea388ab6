/-- a part is done: the row behind it, how many notices come -/
def dcR (f : Nat → Int32) (k : Int32) (a : Nat) (y : Int32) : Nat → Int32 :=
  if k = 46 then psR f a else if k = 97 then (if (0 ≤ nI a ∧ nI a ≤ f 75 - 1) ∧ f (132 + a) = 0 then daR f a (f (92 + a)).toNatClampNeg else f) else if k = 100 then upd f (8 + a) y else if k = 102 then upd f (0 + a) y else if k = 103 then upd f (32 + a) y else if k = 111 then upd f (62 + a) y else if k = 114 then upd f (62 + a) (-1) else f
def dvR (f : Nat → Int32) (k : Int32) (a : Nat) : Int32 := if k = 46 then psR f a 75 - f 75 else 0
theorem dcR_46 {f : Nat → Int32} {k : Int32} (h : k = 46) (a : Nat) (y : Int32) : dcR f k a y = psR f a := by rw [dcR, if_pos h]
theorem dcR_97 {f : Nat → Int32} {k : Int32} (h : k = 97) (a : Nat) (y : Int32) : dcR f k a y = if (0 ≤ nI a ∧ nI a ≤ f 75 - 1) ∧ f (132 + a) = 0 then daR f a (f (92 + a)).toNatClampNeg else f := by subst h; rw [dcR, if_neg (by decide), if_pos rfl]
theorem dcR_100 {f : Nat → Int32} {k : Int32} (h : k = 100) (a : Nat) (y : Int32) : dcR f k a y = upd f (8 + a) y := by subst h; rw [dcR, if_neg (by decide), if_neg (by decide), if_pos rfl]
theorem dcR_102 {f : Nat → Int32} {k : Int32} (h : k = 102) (a : Nat) (y : Int32) : dcR f k a y = upd f (0 + a) y := by subst h; rw [dcR, if_neg (by decide), if_neg (by decide), if_neg (by decide), if_pos rfl]
theorem dcR_103 {f : Nat → Int32} {k : Int32} (h : k = 103) (a : Nat) (y : Int32) : dcR f k a y = upd f (32 + a) y := by subst h; rw [dcR, if_neg (by decide), if_neg (by decide), if_neg (by decide), if_neg (by decide), if_pos rfl]
theorem dcR_111 {f : Nat → Int32} {k : Int32} (h : k = 111) (a : Nat) (y : Int32) : dcR f k a y = upd f (62 + a) y := by subst h; rw [dcR, if_neg (by decide), if_neg (by decide), if_neg (by decide), if_neg (by decide), if_neg (by decide), if_pos rfl]
theorem dcR_114 {f : Nat → Int32} {k : Int32} (h : k = 114) (a : Nat) (y : Int32) : dcR f k a y = upd f (62 + a) (-1) := by subst h; rw [dcR, if_neg (by decide), if_neg (by decide), if_neg (by decide), if_neg (by decide), if_neg (by decide), if_neg (by decide), if_pos rfl]
theorem dvR_46 {f : Nat → Int32} {k : Int32} (h : k = 46) (a : Nat) : dvR f k a = psR f a 75 - f 75 := by rw [dvR, if_pos h]
theorem dvR_n {f : Nat → Int32} {k : Int32} (j : Int32) (hj : ¬ j = 46) (h : k = j) (a : Nat) : dvR f k a = 0 := by subst h; rw [dvR, if_neg hj]
theorem lt3_20 {a : Nat} (h : a < 3) : 62 + a < 1804 := by omega

abbrev rmX9_does : Room := { frames := 5, cells := 0, slots := 0, locals := 117 }
theorem iX9_does_9 : ∀ w ∈ u_ws RX9 TX9 15, w ∈ wsX9_does := by decide +kernel
set_option maxHeartbeats 4000000 in
set_option maxRecDepth 100000 in
theorem kX9_does (l : Launch) {M : Mm} {a : Nat} (hK : M 709 11 = 46 ∨ M 709 11 = 97 ∨ M 709 11 = 100 ∨ M 709 11 = 102 ∨ M 709 11 = 103 ∨ M 709 11 = 111 ∨ M 709 11 = 114) (ha : M 709 12 = nI a) (ha1 : a < 1000) (hO : M 709 11 = 111 ∨ M 709 11 = 114 → a < 3) (hC : M 709 11 = 102 ∨ M 709 11 = 100 → a < 8) (hGr : M 709 11 = 103 → a < 24) (hAp : M 709 11 = 97 → a < 20) (hW : RW (M 710)) (hN : ∀ e, e < 20 → (0 ≤ nI e ∧ nI e ≤ M 710 75 - 1) → (M 710 (92 + e)).toNatClampNeg < 8 ∧ M 710 (92 + e) = nI (M 710 (92 + e)).toNatClampNeg) : Ct l yX9_does wsX9_does rmX9_does (fun B => [.ref (B + 709)]) M (fun _ v u => v = some (.int (dvR (M 710) (M 709 11) a)) ∧ u = va_up M 710 (dcR (M 710) (M 709 11) a (M 709 13))) := by
  refine Ct.ofI (own := RX9) (by decide +kernel) rfl rfl (fun B => Nat.le_of_ble_eq_true rfl) ?_
  intro pp ee ss mm aa bb me c9 DD ca B Tl AA QQ F K
  show G pp l ee rmX9_does ss mm aa bb me c9 QQ DD ca B Tl AA 2 0 0 M 0 [(0, .ref (B + 709))] []
  refine g_aload_n F dX9_does_0 rfl 0 rfl ?_
  refine gg9_sign F iX9_does_9 r709 (by decide +kernel) dX9_does_1 ?_
  rcases hK with hk46 | hk97 | hk100 | hk102 | hk103 | hk111 | hk114
  · refine g_tableOut F 224 dX9_does_4 (by rw [hk46]; decide +kernel) (by decide) ?_
    have e0 := dcR_46 (f := M 710) hk46 a (M 709 13)
    have e1 := dvR_46 (f := M 710) hk46 a
    refine g_aload_n F dX9_does_224 rfl 0 rfl ?_
    refine g_aload_n F dX9_does_225 rfl 0 rfl ?_
    refine gg9_one F iX9_does_9 r709 (by decide +kernel) dX9_does_226 ?_
    refine g_top (y := nI a) ha ?_
    refine g_callV F (kX9_passes l (k := a) ha1 hW) (cwV 1 F.1.2.2.2.2 gX9_does_X9_passes rfl rfl rfl (by decide +kernel) ⟨Nat.le_of_ble_eq_true rfl, Nat.le_of_ble_eq_true rfl⟩) r709 (by decide) rfl rfl rfl rfl (Nat.le_of_ble_eq_true rfl) dX9_does_229 ⟨Nat.le_of_ble_eq_true rfl, Nat.le_of_ble_eq_true rfl⟩ (g_det ?_)
    exact K _ _ _ _ dX9_does_232 rfl ⟨by rw [e1], by rw [e0]; first | done | rfl | exact (up_id M 710).symm⟩
  · refine g_tableIn F (off := 174) 178 dX9_does_4 (by rw [hk97]; decide +kernel) (by rw [hk97]; decide +kernel) (by rw [hk97]; decide +kernel) (by decide) ?_
    have e0 := dcR_97 (f := M 710) hk97 a (M 709 13)
    have e1 := dvR_n (f := M 710) 97 (by decide) hk97 a
    have ha20 := hAp hk97
    refine g_aload_n F dX9_does_178 rfl 0 rfl ?_
    refine g_aload_n F dX9_does_179 rfl 0 rfl ?_
    refine gg9_one F iX9_does_9 r709 (by decide +kernel) dX9_does_180 ?_
    refine g_top (y := nI a) ha ?_
    refine g_callV F (kX9_isNotice l _) (cwV 1 F.1.2.2.2.2 gX9_does_X9_isNotice rfl rfl rfl (by decide +kernel) ⟨Nat.le_of_ble_eq_true rfl, Nat.le_of_ble_eq_true rfl⟩) r709 (by decide) rfl rfl rfl rfl (Nat.le_of_ble_eq_true rfl) dX9_does_183 ⟨Nat.le_of_ble_eq_true rfl, Nat.le_of_ble_eq_true rfl⟩ (g_det ?_)
    refine g_ifB_eq F 220 dX9_does_186 (by decide) (fun h1 => ?_) (fun h1 => ?_)
    · replace e0 := e0.trans (if_neg (fun z => h1 z.1))
      refine g_iconst F (v := 0) dX9_does_220 (by decide) ?_
      refine g_istore_n F (lv2 := [(1, _), (0, _)]) dX9_does_221 rfl (by decide) rfl ?_
      refine g_iconst F (v := 0) dX9_does_222 (by decide) ?_
      exact K _ _ _ _ dX9_does_223 rfl ⟨by rw [e1], by rw [e0]; first | done | rfl | exact (up_id M 710).symm⟩
    · refine g_aload_n F dX9_does_189 rfl 0 rfl ?_
      refine gg9_state F iX9_does_9 r709 (by decide +kernel) dX9_does_190 ?_
      refine g_sipush F (v := 132) dX9_does_193 (by decide +kernel) ?_
      refine g_aload_n F dX9_does_196 rfl 0 rfl ?_
      refine gg9_one F iX9_does_9 r709 (by decide +kernel) dX9_does_197 ?_
      refine g_top (y := nI a) ha ?_
      refine g_iadd F dX9_does_200 ?_
      refine g_top (nI_add (132) (a)) ?_
      refine g_iaload (r := 710) F a710 ((132 + a)) rfl (by omega) (by decide) dX9_does_201 ?_
      refine g_if_ne F 220 dX9_does_202 (by decide) (fun h2 => ?_) (fun h2 => ?_)
      · replace e0 := e0.trans (if_neg (fun z => h2 z.2))
        refine g_iconst F (v := 0) dX9_does_220 (by decide) ?_
        refine g_istore_n F (lv2 := [(1, _), (0, _)]) dX9_does_221 rfl (by decide) rfl ?_
        refine g_iconst F (v := 0) dX9_does_222 (by decide) ?_
        exact K _ _ _ _ dX9_does_223 rfl ⟨by rw [e1], by rw [e0]; first | done | rfl | exact (up_id M 710).symm⟩
      · replace e0 := e0.trans (if_pos (And.intro h1 (by first | exact h2 | exact Decidable.not_not.mp h2)))
        refine g_aload_n F dX9_does_205 rfl 0 rfl ?_
        refine g_aload_n F dX9_does_206 rfl 0 rfl ?_
        refine gg9_one F iX9_does_9 r709 (by decide +kernel) dX9_does_207 ?_
        refine g_top (y := nI a) ha ?_
        refine g_callV F (kX9_doAppeal l (e := a) (c := (M 710 (92 + a)).toNatClampNeg) ha20 (hN a ha20 h1).1 (hN a ha20 h1).2) (cwV 1 F.1.2.2.2.2 gX9_does_X9_doAppeal rfl rfl rfl (by decide +kernel) ⟨Nat.le_of_ble_eq_true rfl, Nat.le_of_ble_eq_true rfl⟩) r709 (by decide) rfl rfl rfl rfl (Nat.le_of_ble_eq_true rfl) dX9_does_210 ⟨Nat.le_of_ble_eq_true rfl, Nat.le_of_ble_eq_true rfl⟩ (g_det ?_)
        refine g_if_eq F 220 dX9_does_213 (by decide) (fun h3 => ?_) (fun h3 => ?_)
        · refine g_iconst F (v := 0) dX9_does_220 (by decide) ?_
          refine g_istore_n F (lv2 := [(1, _), (0, _)]) dX9_does_221 rfl (by decide) rfl ?_
          refine g_iconst F (v := 0) dX9_does_222 (by decide) ?_
          exact K _ _ _ _ dX9_does_223 rfl ⟨by rw [e1], by rw [e0]; first | done | rfl | exact (up_id M 710).symm⟩
        · refine g_iconst F (v := 1) dX9_does_216 (by decide) ?_
          refine g_goto F 221 dX9_does_217 (by decide) ?_
          refine g_istore_n F (lv2 := [(1, _), (0, _)]) dX9_does_221 rfl (by decide) rfl ?_
          refine g_iconst F (v := 0) dX9_does_222 (by decide) ?_
          exact K _ _ _ _ dX9_does_223 rfl ⟨by rw [e1], by rw [e0]; first | done | rfl | exact (up_id M 710).symm⟩
  · refine g_tableIn F (off := 138) 142 dX9_does_4 (by rw [hk100]; decide +kernel) (by rw [hk100]; decide +kernel) (by rw [hk100]; decide +kernel) (by decide) ?_
    have e0 := dcR_100 (f := M 710) hk100 a (M 709 13)
    have e1 := dvR_n (f := M 710) 100 (by decide) hk100 a
    have ha8 := hC (Or.inr hk100)
    refine g_aload_n F dX9_does_142 rfl 0 rfl ?_
    refine gg9_state F iX9_does_9 r709 (by decide +kernel) dX9_does_143 ?_
    refine g_bipush F (v := 8) dX9_does_146 (by decide +kernel) ?_
    refine g_aload_n F dX9_does_148 rfl 0 rfl ?_
    refine gg9_one F iX9_does_9 r709 (by decide +kernel) dX9_does_149 ?_
    refine g_top (y := nI a) ha ?_
    refine g_iadd F dX9_does_152 ?_
    refine g_top (nI_add (8) (a)) ?_
    refine g_aload_n F dX9_does_153 rfl 0 rfl ?_
    refine gg9_two F iX9_does_9 r709 (by decide +kernel) dX9_does_154 ?_
    refine g_iastore (r := 710) F a710 ((8 + a)) rfl (by omega) (by decide) dX9_does_157 ?_
    refine g_iconst F (v := 0) dX9_does_158 (by decide) ?_
    exact K _ _ _ _ dX9_does_159 rfl ⟨by rw [e1], by rw [e0]; first | done | rfl | exact (up_id M 710).symm⟩
  · refine g_tableIn F (off := 121) 125 dX9_does_4 (by rw [hk102]; decide +kernel) (by rw [hk102]; decide +kernel) (by rw [hk102]; decide +kernel) (by decide) ?_
    have e0 := dcR_102 (f := M 710) hk102 a (M 709 13)
    have e1 := dvR_n (f := M 710) 102 (by decide) hk102 a
    have ha8 := hC (Or.inl hk102)
    refine g_aload_n F dX9_does_125 rfl 0 rfl ?_
    refine gg9_state F iX9_does_9 r709 (by decide +kernel) dX9_does_126 ?_
    refine g_iconst F (v := 0) dX9_does_129 (by decide) ?_
    refine g_aload_n F dX9_does_130 rfl 0 rfl ?_
    refine gg9_one F iX9_does_9 r709 (by decide +kernel) dX9_does_131 ?_
    refine g_top (y := nI a) ha ?_
    refine g_iadd F dX9_does_134 ?_
    refine g_top (nI_add (0) (a)) ?_
    refine g_aload_n F dX9_does_135 rfl 0 rfl ?_
    refine gg9_two F iX9_does_9 r709 (by decide +kernel) dX9_does_136 ?_
    refine g_iastore (r := 710) F a710 ((0 + a)) rfl (by omega) (by decide) dX9_does_139 ?_
    refine g_iconst F (v := 0) dX9_does_140 (by decide) ?_
    exact K _ _ _ _ dX9_does_141 rfl ⟨by rw [e1], by rw [e0]; first | done | rfl | exact (up_id M 710).symm⟩
  · refine g_tableIn F (off := 156) 160 dX9_does_4 (by rw [hk103]; decide +kernel) (by rw [hk103]; decide +kernel) (by rw [hk103]; decide +kernel) (by decide) ?_
    have e0 := dcR_103 (f := M 710) hk103 a (M 709 13)
    have e1 := dvR_n (f := M 710) 103 (by decide) hk103 a
    have ha24 := hGr hk103
    refine g_aload_n F dX9_does_160 rfl 0 rfl ?_
    refine gg9_state F iX9_does_9 r709 (by decide +kernel) dX9_does_161 ?_
    refine g_bipush F (v := 32) dX9_does_164 (by decide +kernel) ?_
    refine g_aload_n F dX9_does_166 rfl 0 rfl ?_
    refine gg9_one F iX9_does_9 r709 (by decide +kernel) dX9_does_167 ?_
    refine g_top (y := nI a) ha ?_
    refine g_iadd F dX9_does_170 ?_
    refine g_top (nI_add (32) (a)) ?_
    refine g_aload_n F dX9_does_171 rfl 0 rfl ?_
    refine gg9_two F iX9_does_9 r709 (by decide +kernel) dX9_does_172 ?_
    refine g_iastore (r := 710) F a710 ((32 + a)) rfl (by omega) (by decide) dX9_does_175 ?_
    refine g_iconst F (v := 0) dX9_does_176 (by decide) ?_
    exact K _ _ _ _ dX9_does_177 rfl ⟨by rw [e1], by rw [e0]; first | done | rfl | exact (up_id M 710).symm⟩
  · refine g_tableIn F (off := 88) 92 dX9_does_4 (by rw [hk111]; decide +kernel) (by rw [hk111]; decide +kernel) (by rw [hk111]; decide +kernel) (by decide) ?_
    have e0 := dcR_111 (f := M 710) hk111 a (M 709 13)
    have e1 := dvR_n (f := M 710) 111 (by decide) hk111 a
    have ha3 := hO (Or.inl hk111)
    refine g_aload_n F dX9_does_92 rfl 0 rfl ?_
    refine gg9_state F iX9_does_9 r709 (by decide +kernel) dX9_does_93 ?_
    refine g_bipush F (v := 62) dX9_does_96 (by decide +kernel) ?_
    refine g_aload_n F dX9_does_98 rfl 0 rfl ?_
    refine gg9_one F iX9_does_9 r709 (by decide +kernel) dX9_does_99 ?_
    refine g_top (y := nI a) ha ?_
    refine g_iadd F dX9_does_102 ?_
    refine g_top (nI_add (62) (a)) ?_
    refine g_aload_n F dX9_does_103 rfl 0 rfl ?_
    refine gg9_two F iX9_does_9 r709 (by decide +kernel) dX9_does_104 ?_
    refine g_iastore (r := 710) F a710 ((62 + a)) rfl (by omega) (by decide) dX9_does_107 ?_
    refine g_iconst F (v := 0) dX9_does_108 (by decide) ?_
    exact K _ _ _ _ dX9_does_109 rfl ⟨by rw [e1], by rw [e0]; first | done | rfl | exact (up_id M 710).symm⟩
  · refine g_tableIn F (off := 106) 110 dX9_does_4 (by rw [hk114]; decide +kernel) (by rw [hk114]; decide +kernel) (by rw [hk114]; decide +kernel) (by decide) ?_
    have e0 := dcR_114 (f := M 710) hk114 a (M 709 13)
    have e1 := dvR_n (f := M 710) 114 (by decide) hk114 a
    have ha3 := hO (Or.inr hk114)
    refine g_aload_n F dX9_does_110 rfl 0 rfl ?_
    refine gg9_state F iX9_does_9 r709 (by decide +kernel) dX9_does_111 ?_
    refine g_bipush F (v := 62) dX9_does_114 (by decide +kernel) ?_
    refine g_aload_n F dX9_does_116 rfl 0 rfl ?_
    refine gg9_one F iX9_does_9 r709 (by decide +kernel) dX9_does_117 ?_
    refine g_top (y := nI a) ha ?_
    refine g_iadd F dX9_does_120 ?_
    refine g_top (nI_add (62) (a)) ?_
    refine g_iconst F (v := -1) dX9_does_121 (by decide) ?_
    refine g_iastore (r := 710) F a710 ((62 + a)) rfl (by omega) (by decide) dX9_does_122 ?_
    refine g_iconst F (v := 0) dX9_does_123 (by decide) ?_
    exact K _ _ _ _ dX9_does_124 rfl ⟨by rw [e1], by rw [e0]; first | done | rfl | exact (up_id M 710).symm⟩

/-- reading the text: a part is taken, done, and the sign behind it passed over -/
abbrev raT (U : Mm) : PR := partR (U 715) (U 709)
abbrev raU (U : Mm) : Mm := va_up U 709 (raT U).2
def raD (U : Mm) : Mm := va_up (raU U) 710 (dcR (U 710) ((raT U).2 11) ((raT U).2 12).toNatClampNeg ((raT U).2 13))
def raN (U : Mm) : Mm := va_up (raD U) 709 (upd (raT U).2 9 ((raT U).2 9 + 1))
def raI (M : Mm) : Nat → Mm
  | 0 => M
  | i + 1 => raN (raI M i)
def raV (M : Mm) : Nat → Int32
  | 0 => 0
  | i + 1 => raV M i + dvR (raI M i 710) ((raT (raI M i)).2 11) ((raT (raI M i)).2 12).toNatClampNeg
/-- what a step of reading needs -/
def raK (g : Nat → Int32) (f : Nat → Int32) (a : Nat) : Prop := (g 11 = 46 ∨ g 11 = 97 ∨ g 11 = 100 ∨ g 11 = 102 ∨ g 11 = 103 ∨ g 11 = 111 ∨ g 11 = 114) ∧ g 12 = nI a ∧ a < 1000 ∧ (g 11 = 111 ∨ g 11 = 114 → a < 3) ∧ (g 11 = 102 ∨ g 11 = 100 → a < 8) ∧ (g 11 = 103 → a < 24) ∧ (g 11 = 97 → a < 20) ∧ RW f ∧ (∀ e, e < 20 → (0 ≤ nI e ∧ nI e ≤ f 75 - 1) → (f (92 + e)).toNatClampNeg < 8 ∧ f (92 + e) = nI (f (92 + e)).toNatClampNeg)
abbrev rkF (M : Mm) : Int32 × (Nat → Int32) := faE (M 715) 61 (upd (thM M 0 709) 9 0)
def rkR (M : Mm) (s : Nat) : Mm := rcM (va_up (thM M 0) 709 (rkF M).2) s
def rkS (M : Mm) (s : Nat) : Mm := va_up (rkR M s) 709 (upd (rkR M s 709) 9 0)
def rkE (M : Mm) (s N : Nat) : Mm := va_up (raI (rkS M s) N) 709 (upd (raI (rkS M s) N 709) 8 0)

abbrev rmX9_read : Room := { frames := 6, cells := 0, slots := 0, locals := 138 }
theorem iX9_read_9 : ∀ w ∈ u_ws RX9 TX9 15, w ∈ wsX9_read := by decide +kernel
set_option maxHeartbeats 4000000 in
set_option maxRecDepth 100000 in
theorem kX9_read (l : Launch) {M : Mm} {L s N : Nat} (hL60 : L ≤ 60) (hL : M 709 8 = nI L) (hs6 : s ≤ 6) (hs7 : (rkF M).2 3 = nI s) (hN9 : N < 1000) (hG : ∀ i, i < N → AL (raI (rkS M s) i 709) ∧ ∃ a, raK (raT (raI (rkS M s) i)).2 (raI (rkS M s) i 710) a) (hlt : ∀ i, i < N → ¬ raI (rkS M s) i 709 8 ≤ raI (rkS M s) i 709 9) (hge : raI (rkS M s) N 709 8 ≤ raI (rkS M s) N 709 9) : Ct l yX9_read wsX9_read rmX9_read (fun B => [.ref (B + 709)]) M (fun _ v u => ¬ (rkF M).1 = -1 ∧ v = some (.int (0)) ∧ u = va_up (thM M 0) 709 (upd (rkF M).2 0 1) ∨ (rkF M).1 = -1 ∧ v = some (.int (raV (rkS M s) N)) ∧ u = rkE M s N) := by
  refine Ct.ofI (own := RX9) (by decide +kernel) rfl rfl (fun B => Nat.le_of_ble_eq_true rfl) ?_
  intro pp ee ss mm aa bb me c9 DD ca B Tl AA QQ F K
  show G pp l ee rmX9_read ss mm aa bb me c9 QQ DD ca B Tl AA 3 0 0 M 0 [(0, .ref (B + 709))] []
  refine g_aload_n F dX9_read_0 rfl 0 rfl ?_
  refine g_callV F (kX9_fault l hL60 hL) (cwV 0 F.1.2.2.2.2 gX9_read_X9_fault rfl rfl rfl (by decide +kernel) ⟨Nat.le_of_ble_eq_true rfl, Nat.le_of_ble_eq_true rfl⟩) r709 (by decide) rfl rfl rfl rfl (Nat.le_of_ble_eq_true rfl) dX9_read_1 ⟨Nat.le_of_ble_eq_true rfl, Nat.le_of_ble_eq_true rfl⟩ (g_det ?_)
  refine g_iconst F (v := -1) dX9_read_4 (by decide) ?_
  refine g_icmp_eq F 14 dX9_read_5 (by decide) (fun h1 => ?_) (fun h1 => ?_)
  · refine g_aload_n F dX9_read_14 rfl 0 rfl ?_
    refine g_callV F (kX9_record l (M := va_up (thM M 0) 709 (rkF M).2) (s := s) hs6 hs7) (cwV 0 F.1.2.2.2.2 gX9_read_X9_record rfl rfl rfl (by decide +kernel) ⟨Nat.le_of_ble_eq_true rfl, Nat.le_of_ble_eq_true rfl⟩) r709 (by decide) rfl rfl rfl rfl (Nat.le_of_ble_eq_true rfl) dX9_read_15 ⟨Nat.le_of_ble_eq_true rfl, Nat.le_of_ble_eq_true rfl⟩ (g_det ?_)
    refine g_iconst F (v := 0) dX9_read_18 (by decide) ?_
    refine g_istore_n F (lv2 := [(1, _), (0, _)]) dX9_read_19 rfl (by decide) rfl ?_
    refine g_aload_n F dX9_read_20 rfl 1 rfl ?_
    refine g_iconst F (v := 0) dX9_read_21 (by decide) ?_
    refine gp9_at F iX9_read_9 r709 (by decide +kernel) dX9_read_22 ?_
    refine g_mem (show _ = rkS M s from rfl) ?_
    have LP : ∀ (ni i : Nat), i + ni = N → G pp l ee rmX9_read ss mm aa bb me c9 QQ DD ca B Tl AA 3 0 0 ((raI (rkS M s) i)) 25 [(0, .ref (B + 709)), (1, .int (raV (rkS M s) i))] [] := by
      intro ni
      induction ni with
      | zero =>
        intro i hni
        refine g_aload_n F dX9_read_25 rfl 0 rfl ?_
        refine gg9_at F iX9_read_9 r709 (by decide +kernel) dX9_read_26 ?_
        refine g_aload_n F dX9_read_29 rfl 0 rfl ?_
        refine gg9_length F iX9_read_9 r709 (by decide +kernel) dX9_read_30 ?_
        refine g_icmp_ge F 61 dX9_read_33 (by decide) (fun h2 => ?_) (fun h2 => ?_)
        · obtain rfl : i = N := by omega
          refine g_aload_n F dX9_read_61 rfl 0 rfl ?_
          refine g_iconst F (v := 0) dX9_read_62 (by decide) ?_
          refine gp9_length F iX9_read_9 r709 (by decide +kernel) dX9_read_63 ?_
          refine g_iload_n F dX9_read_66 rfl 1 rfl ?_
          exact K _ _ _ _ dX9_read_67 rfl (Or.inr ⟨by first | exact h1 | exact Decidable.not_not.mp h1, rfl, rfl⟩)
        · exact absurd (by rw [show i = N by omega]; exact hge) h2
      | succ ni ihi =>
        intro i hni
        refine g_aload_n F dX9_read_25 rfl 0 rfl ?_
        refine gg9_at F iX9_read_9 r709 (by decide +kernel) dX9_read_26 ?_
        refine g_aload_n F dX9_read_29 rfl 0 rfl ?_
        refine gg9_length F iX9_read_9 r709 (by decide +kernel) dX9_read_30 ?_
        refine g_icmp_ge F 61 dX9_read_33 (by decide) (fun h2 => ?_) (fun h2 => ?_)
        · exact absurd h2 (hlt i (by omega))
        · refine g_aload_n F dX9_read_36 rfl 0 rfl ?_
          refine g_callV F (kX9_part l (M := raI (rkS M s) i) (hG i (by omega)).1) (cwV 0 F.1.2.2.2.2 gX9_read_X9_part rfl rfl rfl (by decide +kernel) ⟨Nat.le_of_ble_eq_true rfl, Nat.le_of_ble_eq_true rfl⟩) r709 (by decide) rfl rfl rfl rfl (Nat.le_of_ble_eq_true rfl) dX9_read_37 ⟨Nat.le_of_ble_eq_true rfl, Nat.le_of_ble_eq_true rfl⟩ (g_det ?_)
          obtain ⟨a, hK, ha, ha1, hO, hC, hGr, hAp, hW, hN⟩ := (hG i (by omega)).2
          refine g_istore_n F (lv2 := [(2, _), (0, _), (1, _)]) dX9_read_40 rfl (by decide) rfl ?_
          refine g_iload_n F dX9_read_41 rfl 2 rfl ?_
          refine g_aload_n F dX9_read_42 rfl 1 rfl ?_
          refine g_callV F (kX9_does l (M := raU (raI (rkS M s) i)) (a := a) hK ha ha1 hO hC hGr hAp hW hN) (cwV 0 F.1.2.2.2.2 gX9_read_X9_does rfl rfl rfl (by decide +kernel) ⟨Nat.le_of_ble_eq_true rfl, Nat.le_of_ble_eq_true rfl⟩) r709 (by decide) rfl rfl rfl rfl (Nat.le_of_ble_eq_true rfl) dX9_read_43 ⟨Nat.le_of_ble_eq_true rfl, Nat.le_of_ble_eq_true rfl⟩ (g_det ?_)
          refine g_mem (show _ = raD (raI (rkS M s) i) by rw [raD, ha, nI_clamp (by omega)]; rfl) ?_
          refine g_top (y := dvR ((raI (rkS M s) i) 710) ((raT (raI (rkS M s) i)).2 11) ((raT (raI (rkS M s) i)).2 12).toNatClampNeg) (by rw [ha, nI_clamp (by omega)]; rfl) ?_
          refine g_iadd F dX9_read_46 ?_
          refine g_istore_n F (lv2 := [(1, _), (2, _), (0, _)]) dX9_read_47 rfl (by decide) rfl ?_
          refine g_aload_n F dX9_read_48 rfl 2 rfl ?_
          refine g_dup F dX9_read_49 rfl ?_
          refine gg9_at F iX9_read_9 r709 (by decide +kernel) dX9_read_50 ?_
          refine g_iconst F (v := 1) dX9_read_53 (by decide) ?_
          refine g_iadd F dX9_read_54 ?_
          refine gp9_at F iX9_read_9 r709 (by decide +kernel) dX9_read_55 ?_
          refine g_mem (show _ = (raI (rkS M s) (i + 1)) from rfl) ?_
          refine g_goto F 25 dX9_read_58 (by decide) ?_
          refine g_lv (lv2 := [(0, _), (1, _)]) [2, 0] rfl ?_
          exact g_is rfl rfl (ihi (i + 1) (by omega))
    refine g_lv (lv2 := [(0, _), (1, _)]) [1, 0] rfl ?_
    exact g_is rfl rfl (LP (N - 0) (0) (by omega))
  · refine g_aload_n F dX9_read_8 rfl 0 rfl ?_
    refine g_iconst F (v := 1) dX9_read_9 (by decide) ?_
    refine g_callV F (kX9_fails l _) (cwV 1 F.1.2.2.2.2 gX9_read_X9_fails rfl rfl rfl (by decide +kernel) ⟨Nat.le_of_ble_eq_true rfl, Nat.le_of_ble_eq_true rfl⟩) r709 (by decide) rfl rfl rfl rfl (Nat.le_of_ble_eq_true rfl) dX9_read_10 ⟨Nat.le_of_ble_eq_true rfl, Nat.le_of_ble_eq_true rfl⟩ (g_det ?_)
    refine g_mem (show _ = va_up (thM M 0) 709 (upd (rkF M).2 0 1) by rw [bx_uu, va_up_self]) ?_
    exact K _ _ _ _ dX9_read_13 rfl (Or.inl ⟨h1, rfl, rfl⟩)
