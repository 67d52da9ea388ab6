theorem and_t {a : PR} {n : (Nat → Int32) → PR} (h : a.1 = true) : andF a n = n a.2 := if_pos h
theorem and_f {a : PR} {n : (Nat → Int32) → PR} (h : ¬ a.1 = true) : andF a n = (false, a.2) := if_neg h
theorem pr_t {a : PR} (h : a.1 = true) : (true, a.2) = a := by rw [← h]
theorem pr_f {a : PR} (h : ¬ a.1 = true) : (false, a.2) = a := by cases a with | mk x y => cases x; rfl; exact absurd rfl h

abbrev rmX5_takePart : Room := { frames := 4, cells := 0, slots := 0, locals := 87 }
theorem iX5_takePart_5 : ∀ w ∈ u_ws RX5 TX5 6, w ∈ wsX5_takePart := by decide +kernel
set_option maxHeartbeats 800000 in
set_option maxRecDepth 100000 in
theorem kX5_takePart (l : Launch) {M : Mm}  : Ct l yX5_takePart wsX5_takePart rmX5_takePart (fun B => [.ref (B + 564)]) M (fun _ v u => v = some (.int (b2i ((tpF (M 565) (M 564)).1 = true))) ∧ u = va_up M 564 (tpF (M 565) (M 564)).2) := by
  refine Ct.ofI (own := RX5) (by decide +kernel) rfl rfl (fun B => Nat.le_of_ble_eq_true rfl) ?_
  intro pp ee ss mm aa bb me c9 DD ca B Tl AA QQ F K
  show G pp l ee rmX5_takePart ss mm aa bb me c9 QQ DD ca B Tl AA 1 0 0 M 0 [(0, .ref (B + 564))] []
  refine g_Ty (fun hT => ?_)
  refine g_aload_n F dX5_takePart_0 rfl 0 rfl ?_
  refine g_aload_n F dX5_takePart_1 rfl 0 rfl ?_
  refine g_callV F (kX5_sign l) (cwV 0 F.1.2.2.2.2 gX5_takePart_X5_sign rfl rfl rfl (by decide +kernel) ⟨Nat.le_of_ble_eq_true rfl, Nat.le_of_ble_eq_true rfl⟩) r564 (by decide) rfl rfl rfl rfl (Nat.le_of_ble_eq_true rfl) dX5_takePart_2 ⟨Nat.le_of_ble_eq_true rfl, Nat.le_of_ble_eq_true rfl⟩ (g_det ?_)
  refine gp5_kind F iX5_takePart_5 r564 rfl (by decide +kernel) (sg_chr hT.2.2.2 _) dX5_takePart_5 ?_
  try simp only [bx_uu, va_up_self, va_up_ne _ _ s565]
  refine g_aload_n F dX5_takePart_8 rfl 0 rfl ?_
  refine gg5_kind F iX5_takePart_5 r564 (by decide +kernel) dX5_takePart_9 ?_
  refine g_top (y := sgF (M 565) (M 564)) (by rfl) ?_
  by_cases hk46 : sgF (M 565) (M 564) = 46
  · refine g_lookup F (off := 265) 277 dX5_takePart_12 (by decide) (lv_ohit (a := 46) hk46 rfl) (by decide) ?_
    have e0 : tpF (M 565) (M 564) = tpF (M 565) (M 564) := rfl
    conv at e0 => lhs; rw [tpF, tpG, if_pos hk46]
    refine g_aload_n F dX5_takePart_277 rfl 0 rfl ?_
    refine g_aload_n F dX5_takePart_278 rfl 0 rfl ?_
    refine gg5_kind F iX5_takePart_5 r564 (by decide +kernel) dX5_takePart_279 ?_
    refine g_top (y := sgF (M 565) (M 564)) (by rfl) ?_
    refine g_callV F (kX5_takeSign l _) (cwV 1 F.1.2.2.2.2 gX5_takePart_X5_takeSign rfl rfl rfl (by decide +kernel) ⟨Nat.le_of_ble_eq_true rfl, Nat.le_of_ble_eq_true rfl⟩) r564 (by decide) rfl rfl rfl rfl (Nat.le_of_ble_eq_true rfl) dX5_takePart_282 ⟨Nat.le_of_ble_eq_true rfl, Nat.le_of_ble_eq_true rfl⟩ (g_det ?_)
    try simp only [bx_uu, va_up_self, va_up_ne _ _ s565]
    refine g_ifB_eq F 299 dX5_takePart_285 (by decide) (fun h1 => ?_) (fun h1 => ?_)
    · rw [and_f h1] at e0
      refine g_iconst F (v := 0) dX5_takePart_299 (by decide) ?_
      exact K _ _ _ _ dX5_takePart_300 (by first | exact (bit_z bit_0).1 | exact (bit_z bit_1).1) ⟨by rw [← e0]; rfl, by rw [← e0]⟩
    · rw [and_t h1] at e0
      refine g_aload_n F dX5_takePart_288 rfl 0 rfl ?_
      refine g_callV F (kX5_takeTicks l) (cwV 0 F.1.2.2.2.2 gX5_takePart_X5_takeTicks rfl rfl rfl (by decide +kernel) ⟨Nat.le_of_ble_eq_true rfl, Nat.le_of_ble_eq_true rfl⟩) r564 (by decide) rfl rfl rfl rfl (Nat.le_of_ble_eq_true rfl) dX5_takePart_289 ⟨Nat.le_of_ble_eq_true rfl, Nat.le_of_ble_eq_true rfl⟩ (g_det ?_)
      try simp only [bx_uu, va_up_self, va_up_ne _ _ s565]
      refine g_ifB_eq F 299 dX5_takePart_292 (by decide) (fun h2 => ?_) (fun h2 => ?_)
      · rw [← pr_f h2] at e0
        refine g_iconst F (v := 0) dX5_takePart_299 (by decide) ?_
        exact K _ _ _ _ dX5_takePart_300 (by first | exact (bit_z bit_0).1 | exact (bit_z bit_1).1) ⟨by rw [← e0]; rfl, by rw [← e0]⟩
      · rw [← pr_t h2] at e0
        refine g_iconst F (v := 1) dX5_takePart_295 (by decide) ?_
        refine g_goto F 300 dX5_takePart_296 (by decide) ?_
        exact K _ _ _ _ dX5_takePart_300 (by first | exact (bit_z bit_0).1 | exact (bit_z bit_1).1) ⟨by rw [← e0]; rfl, by rw [← e0]⟩
  by_cases hk97 : sgF (M 565) (M 564) = 97
  · refine g_lookup F (off := 239) 251 dX5_takePart_12 (by decide) ((lv_osw (a := 46) hk46 rfl).trans (lv_ohit (a := 97) hk97 rfl)) (by decide) ?_
    have e0 : tpF (M 565) (M 564) = tpF (M 565) (M 564) := rfl
    conv at e0 => lhs; rw [tpF, tpG, if_neg hk46, if_pos hk97]
    refine g_aload_n F dX5_takePart_251 rfl 0 rfl ?_
    refine g_aload_n F dX5_takePart_252 rfl 0 rfl ?_
    refine gg5_kind F iX5_takePart_5 r564 (by decide +kernel) dX5_takePart_253 ?_
    refine g_top (y := sgF (M 565) (M 564)) (by rfl) ?_
    refine g_callV F (kX5_takeSign l _) (cwV 1 F.1.2.2.2.2 gX5_takePart_X5_takeSign rfl rfl rfl (by decide +kernel) ⟨Nat.le_of_ble_eq_true rfl, Nat.le_of_ble_eq_true rfl⟩) r564 (by decide) rfl rfl rfl rfl (Nat.le_of_ble_eq_true rfl) dX5_takePart_256 ⟨Nat.le_of_ble_eq_true rfl, Nat.le_of_ble_eq_true rfl⟩ (g_det ?_)
    try simp only [bx_uu, va_up_self, va_up_ne _ _ s565]
    refine g_ifB_eq F 275 dX5_takePart_259 (by decide) (fun h1 => ?_) (fun h1 => ?_)
    · rw [and_f h1] at e0
      refine g_iconst F (v := 0) dX5_takePart_275 (by decide) ?_
      exact K _ _ _ _ dX5_takePart_276 (by first | exact (bit_z bit_0).1 | exact (bit_z bit_1).1) ⟨by rw [← e0]; rfl, by rw [← e0]⟩
    · rw [and_t h1] at e0
      refine g_aload_n F dX5_takePart_262 rfl 0 rfl ?_
      refine g_bipush F (v := 19) dX5_takePart_263 (by decide +kernel) ?_
      refine g_callV F (kX5_takeNumber l _) (cwV 1 F.1.2.2.2.2 gX5_takePart_X5_takeNumber rfl rfl rfl (by decide +kernel) ⟨Nat.le_of_ble_eq_true rfl, Nat.le_of_ble_eq_true rfl⟩) r564 (by decide) rfl rfl rfl rfl (Nat.le_of_ble_eq_true rfl) dX5_takePart_265 ⟨Nat.le_of_ble_eq_true rfl, Nat.le_of_ble_eq_true rfl⟩ (g_det ?_)
      try simp only [bx_uu, va_up_self, va_up_ne _ _ s565]
      refine g_ifB_eq F 275 dX5_takePart_268 (by decide) (fun h2 => ?_) (fun h2 => ?_)
      · rw [← pr_f h2] at e0
        refine g_iconst F (v := 0) dX5_takePart_275 (by decide) ?_
        exact K _ _ _ _ dX5_takePart_276 (by first | exact (bit_z bit_0).1 | exact (bit_z bit_1).1) ⟨by rw [← e0]; rfl, by rw [← e0]⟩
      · rw [← pr_t h2] at e0
        refine g_iconst F (v := 1) dX5_takePart_271 (by decide) ?_
        refine g_goto F 276 dX5_takePart_272 (by decide) ?_
        exact K _ _ _ _ dX5_takePart_276 (by first | exact (bit_z bit_0).1 | exact (bit_z bit_1).1) ⟨by rw [← e0]; rfl, by rw [← e0]⟩
  by_cases hk100 : sgF (M 565) (M 564) = 100
  · refine g_lookup F (off := 162) 174 dX5_takePart_12 (by decide) ((lv_osw (a := 46) hk46 rfl).trans ((lv_osw (a := 97) hk97 rfl).trans (lv_ohit (a := 100) hk100 rfl))) (by decide) ?_
    have e0 : tpF (M 565) (M 564) = tpF (M 565) (M 564) := rfl
    conv at e0 => lhs; rw [tpF, tpG, if_neg hk46, if_neg hk97, if_pos hk100]
    refine g_aload_n F dX5_takePart_174 rfl 0 rfl ?_
    refine g_aload_n F dX5_takePart_175 rfl 0 rfl ?_
    refine gg5_kind F iX5_takePart_5 r564 (by decide +kernel) dX5_takePart_176 ?_
    refine g_top (y := sgF (M 565) (M 564)) (by rfl) ?_
    refine g_callV F (kX5_takeSign l _) (cwV 1 F.1.2.2.2.2 gX5_takePart_X5_takeSign rfl rfl rfl (by decide +kernel) ⟨Nat.le_of_ble_eq_true rfl, Nat.le_of_ble_eq_true rfl⟩) r564 (by decide) rfl rfl rfl rfl (Nat.le_of_ble_eq_true rfl) dX5_takePart_179 ⟨Nat.le_of_ble_eq_true rfl, Nat.le_of_ble_eq_true rfl⟩ (g_det ?_)
    try simp only [bx_uu, va_up_self, va_up_ne _ _ s565]
    refine g_ifB_eq F 206 dX5_takePart_182 (by decide) (fun h1 => ?_) (fun h1 => ?_)
    · rw [and_f h1] at e0
      refine g_iconst F (v := 0) dX5_takePart_206 (by decide) ?_
      exact K _ _ _ _ dX5_takePart_207 (by first | exact (bit_z bit_0).1 | exact (bit_z bit_1).1) ⟨by rw [← e0]; rfl, by rw [← e0]⟩
    · rw [and_t h1] at e0
      refine g_aload_n F dX5_takePart_185 rfl 0 rfl ?_
      refine g_bipush F (v := 7) dX5_takePart_186 (by decide +kernel) ?_
      refine g_callV F (kX5_takeFirst l _) (cwV 1 F.1.2.2.2.2 gX5_takePart_X5_takeFirst rfl rfl rfl (by decide +kernel) ⟨Nat.le_of_ble_eq_true rfl, Nat.le_of_ble_eq_true rfl⟩) r564 (by decide) rfl rfl rfl rfl (Nat.le_of_ble_eq_true rfl) dX5_takePart_188 ⟨Nat.le_of_ble_eq_true rfl, Nat.le_of_ble_eq_true rfl⟩ (g_det ?_)
      try simp only [bx_uu, va_up_self, va_up_ne _ _ s565]
      refine g_ifB_eq F 206 dX5_takePart_191 (by decide) (fun h2 => ?_) (fun h2 => ?_)
      · rw [and_f h2] at e0
        refine g_iconst F (v := 0) dX5_takePart_206 (by decide) ?_
        exact K _ _ _ _ dX5_takePart_207 (by first | exact (bit_z bit_0).1 | exact (bit_z bit_1).1) ⟨by rw [← e0]; rfl, by rw [← e0]⟩
      · rw [and_t h2] at e0
        refine g_aload_n F dX5_takePart_194 rfl 0 rfl ?_
        refine g_iconst F (v := 2) dX5_takePart_195 (by decide) ?_
        refine g_callV F (kX5_takeSecond l _) (cwV 1 F.1.2.2.2.2 gX5_takePart_X5_takeSecond rfl rfl rfl (by decide +kernel) ⟨Nat.le_of_ble_eq_true rfl, Nat.le_of_ble_eq_true rfl⟩) r564 (by decide) rfl rfl rfl rfl (Nat.le_of_ble_eq_true rfl) dX5_takePart_196 ⟨Nat.le_of_ble_eq_true rfl, Nat.le_of_ble_eq_true rfl⟩ (g_det ?_)
        try simp only [bx_uu, va_up_self, va_up_ne _ _ s565]
        refine g_ifB_eq F 206 dX5_takePart_199 (by decide) (fun h3 => ?_) (fun h3 => ?_)
        · rw [← pr_f h3] at e0
          refine g_iconst F (v := 0) dX5_takePart_206 (by decide) ?_
          exact K _ _ _ _ dX5_takePart_207 (by first | exact (bit_z bit_0).1 | exact (bit_z bit_1).1) ⟨by rw [← e0]; rfl, by rw [← e0]⟩
        · rw [← pr_t h3] at e0
          refine g_iconst F (v := 1) dX5_takePart_202 (by decide) ?_
          refine g_goto F 207 dX5_takePart_203 (by decide) ?_
          exact K _ _ _ _ dX5_takePart_207 (by first | exact (bit_z bit_0).1 | exact (bit_z bit_1).1) ⟨by rw [← e0]; rfl, by rw [← e0]⟩
  by_cases hk102 : sgF (M 565) (M 564) = 102
  · refine g_lookup F (off := 127) 139 dX5_takePart_12 (by decide) ((lv_osw (a := 46) hk46 rfl).trans ((lv_osw (a := 97) hk97 rfl).trans ((lv_osw (a := 100) hk100 rfl).trans (lv_ohit (a := 102) hk102 rfl)))) (by decide) ?_
    have e0 : tpF (M 565) (M 564) = tpF (M 565) (M 564) := rfl
    conv at e0 => lhs; rw [tpF, tpG, if_neg hk46, if_neg hk97, if_neg hk100, if_pos hk102]
    refine g_aload_n F dX5_takePart_139 rfl 0 rfl ?_
    refine g_aload_n F dX5_takePart_140 rfl 0 rfl ?_
    refine gg5_kind F iX5_takePart_5 r564 (by decide +kernel) dX5_takePart_141 ?_
    refine g_top (y := sgF (M 565) (M 564)) (by rfl) ?_
    refine g_callV F (kX5_takeSign l _) (cwV 1 F.1.2.2.2.2 gX5_takePart_X5_takeSign rfl rfl rfl (by decide +kernel) ⟨Nat.le_of_ble_eq_true rfl, Nat.le_of_ble_eq_true rfl⟩) r564 (by decide) rfl rfl rfl rfl (Nat.le_of_ble_eq_true rfl) dX5_takePart_144 ⟨Nat.le_of_ble_eq_true rfl, Nat.le_of_ble_eq_true rfl⟩ (g_det ?_)
    try simp only [bx_uu, va_up_self, va_up_ne _ _ s565]
    refine g_ifB_eq F 172 dX5_takePart_147 (by decide) (fun h1 => ?_) (fun h1 => ?_)
    · rw [and_f h1] at e0
      refine g_iconst F (v := 0) dX5_takePart_172 (by decide) ?_
      exact K _ _ _ _ dX5_takePart_173 (by first | exact (bit_z bit_0).1 | exact (bit_z bit_1).1) ⟨by rw [← e0]; rfl, by rw [← e0]⟩
    · rw [and_t h1] at e0
      refine g_aload_n F dX5_takePart_150 rfl 0 rfl ?_
      refine g_bipush F (v := 7) dX5_takePart_151 (by decide +kernel) ?_
      refine g_callV F (kX5_takeFirst l _) (cwV 1 F.1.2.2.2.2 gX5_takePart_X5_takeFirst rfl rfl rfl (by decide +kernel) ⟨Nat.le_of_ble_eq_true rfl, Nat.le_of_ble_eq_true rfl⟩) r564 (by decide) rfl rfl rfl rfl (Nat.le_of_ble_eq_true rfl) dX5_takePart_153 ⟨Nat.le_of_ble_eq_true rfl, Nat.le_of_ble_eq_true rfl⟩ (g_det ?_)
      try simp only [bx_uu, va_up_self, va_up_ne _ _ s565]
      refine g_ifB_eq F 172 dX5_takePart_156 (by decide) (fun h2 => ?_) (fun h2 => ?_)
      · rw [and_f h2] at e0
        refine g_iconst F (v := 0) dX5_takePart_172 (by decide) ?_
        exact K _ _ _ _ dX5_takePart_173 (by first | exact (bit_z bit_0).1 | exact (bit_z bit_1).1) ⟨by rw [← e0]; rfl, by rw [← e0]⟩
      · rw [and_t h2] at e0
        refine g_aload_n F dX5_takePart_159 rfl 0 rfl ?_
        refine g_bipush F (v := 9) dX5_takePart_160 (by decide +kernel) ?_
        refine g_callV F (kX5_takeSecond l _) (cwV 1 F.1.2.2.2.2 gX5_takePart_X5_takeSecond rfl rfl rfl (by decide +kernel) ⟨Nat.le_of_ble_eq_true rfl, Nat.le_of_ble_eq_true rfl⟩) r564 (by decide) rfl rfl rfl rfl (Nat.le_of_ble_eq_true rfl) dX5_takePart_162 ⟨Nat.le_of_ble_eq_true rfl, Nat.le_of_ble_eq_true rfl⟩ (g_det ?_)
        try simp only [bx_uu, va_up_self, va_up_ne _ _ s565]
        refine g_ifB_eq F 172 dX5_takePart_165 (by decide) (fun h3 => ?_) (fun h3 => ?_)
        · rw [← pr_f h3] at e0
          refine g_iconst F (v := 0) dX5_takePart_172 (by decide) ?_
          exact K _ _ _ _ dX5_takePart_173 (by first | exact (bit_z bit_0).1 | exact (bit_z bit_1).1) ⟨by rw [← e0]; rfl, by rw [← e0]⟩
        · rw [← pr_t h3] at e0
          refine g_iconst F (v := 1) dX5_takePart_168 (by decide) ?_
          refine g_goto F 173 dX5_takePart_169 (by decide) ?_
          exact K _ _ _ _ dX5_takePart_173 (by first | exact (bit_z bit_0).1 | exact (bit_z bit_1).1) ⟨by rw [← e0]; rfl, by rw [← e0]⟩
  by_cases hk103 : sgF (M 565) (M 564) = 103
  · refine g_lookup F (off := 196) 208 dX5_takePart_12 (by decide) ((lv_osw (a := 46) hk46 rfl).trans ((lv_osw (a := 97) hk97 rfl).trans ((lv_osw (a := 100) hk100 rfl).trans ((lv_osw (a := 102) hk102 rfl).trans (lv_ohit (a := 103) hk103 rfl))))) (by decide) ?_
    have e0 : tpF (M 565) (M 564) = tpF (M 565) (M 564) := rfl
    conv at e0 => lhs; rw [tpF, tpG, if_neg hk46, if_neg hk97, if_neg hk100, if_neg hk102, if_pos hk103]
    refine g_aload_n F dX5_takePart_208 rfl 0 rfl ?_
    refine g_aload_n F dX5_takePart_209 rfl 0 rfl ?_
    refine gg5_kind F iX5_takePart_5 r564 (by decide +kernel) dX5_takePart_210 ?_
    refine g_top (y := sgF (M 565) (M 564)) (by rfl) ?_
    refine g_callV F (kX5_takeSign l _) (cwV 1 F.1.2.2.2.2 gX5_takePart_X5_takeSign rfl rfl rfl (by decide +kernel) ⟨Nat.le_of_ble_eq_true rfl, Nat.le_of_ble_eq_true rfl⟩) r564 (by decide) rfl rfl rfl rfl (Nat.le_of_ble_eq_true rfl) dX5_takePart_213 ⟨Nat.le_of_ble_eq_true rfl, Nat.le_of_ble_eq_true rfl⟩ (g_det ?_)
    try simp only [bx_uu, va_up_self, va_up_ne _ _ s565]
    refine g_ifB_eq F 249 dX5_takePart_216 (by decide) (fun h1 => ?_) (fun h1 => ?_)
    · rw [and_f h1] at e0
      refine g_iconst F (v := 0) dX5_takePart_249 (by decide) ?_
      exact K _ _ _ _ dX5_takePart_250 (by first | exact (bit_z bit_0).1 | exact (bit_z bit_1).1) ⟨by rw [← e0]; rfl, by rw [← e0]⟩
    · rw [and_t h1] at e0
      refine g_aload_n F dX5_takePart_219 rfl 0 rfl ?_
      refine g_bipush F (v := 23) dX5_takePart_220 (by decide +kernel) ?_
      refine g_callV F (kX5_takeNumber l _) (cwV 1 F.1.2.2.2.2 gX5_takePart_X5_takeNumber rfl rfl rfl (by decide +kernel) ⟨Nat.le_of_ble_eq_true rfl, Nat.le_of_ble_eq_true rfl⟩) r564 (by decide) rfl rfl rfl rfl (Nat.le_of_ble_eq_true rfl) dX5_takePart_222 ⟨Nat.le_of_ble_eq_true rfl, Nat.le_of_ble_eq_true rfl⟩ (g_det ?_)
      try simp only [bx_uu, va_up_self, va_up_ne _ _ s565]
      refine g_ifB_eq F 249 dX5_takePart_225 (by decide) (fun h2 => ?_) (fun h2 => ?_)
      · rw [and_f h2] at e0
        refine g_iconst F (v := 0) dX5_takePart_249 (by decide) ?_
        exact K _ _ _ _ dX5_takePart_250 (by first | exact (bit_z bit_0).1 | exact (bit_z bit_1).1) ⟨by rw [← e0]; rfl, by rw [← e0]⟩
      · rw [and_t h2] at e0
        refine g_aload_n F dX5_takePart_228 rfl 0 rfl ?_
        refine g_bipush F (v := 61) dX5_takePart_229 (by decide +kernel) ?_
        refine g_callV F (kX5_takeSign l _) (cwV 1 F.1.2.2.2.2 gX5_takePart_X5_takeSign rfl rfl rfl (by decide +kernel) ⟨Nat.le_of_ble_eq_true rfl, Nat.le_of_ble_eq_true rfl⟩) r564 (by decide) rfl rfl rfl rfl (Nat.le_of_ble_eq_true rfl) dX5_takePart_231 ⟨Nat.le_of_ble_eq_true rfl, Nat.le_of_ble_eq_true rfl⟩ (g_det ?_)
        try simp only [bx_uu, va_up_self, va_up_ne _ _ s565]
        refine g_ifB_eq F 249 dX5_takePart_234 (by decide) (fun h3 => ?_) (fun h3 => ?_)
        · rw [and_f h3] at e0
          refine g_iconst F (v := 0) dX5_takePart_249 (by decide) ?_
          exact K _ _ _ _ dX5_takePart_250 (by first | exact (bit_z bit_0).1 | exact (bit_z bit_1).1) ⟨by rw [← e0]; rfl, by rw [← e0]⟩
        · rw [and_t h3] at e0
          refine g_aload_n F dX5_takePart_237 rfl 0 rfl ?_
          refine g_iconst F (v := 4) dX5_takePart_238 (by decide) ?_
          refine g_callV F (kX5_takeSecond l _) (cwV 1 F.1.2.2.2.2 gX5_takePart_X5_takeSecond rfl rfl rfl (by decide +kernel) ⟨Nat.le_of_ble_eq_true rfl, Nat.le_of_ble_eq_true rfl⟩) r564 (by decide) rfl rfl rfl rfl (Nat.le_of_ble_eq_true rfl) dX5_takePart_239 ⟨Nat.le_of_ble_eq_true rfl, Nat.le_of_ble_eq_true rfl⟩ (g_det ?_)
          try simp only [bx_uu, va_up_self, va_up_ne _ _ s565]
          refine g_ifB_eq F 249 dX5_takePart_242 (by decide) (fun h4 => ?_) (fun h4 => ?_)
          · rw [← pr_f h4] at e0
            refine g_iconst F (v := 0) dX5_takePart_249 (by decide) ?_
            exact K _ _ _ _ dX5_takePart_250 (by first | exact (bit_z bit_0).1 | exact (bit_z bit_1).1) ⟨by rw [← e0]; rfl, by rw [← e0]⟩
          · rw [← pr_t h4] at e0
            refine g_iconst F (v := 1) dX5_takePart_245 (by decide) ?_
            refine g_goto F 250 dX5_takePart_246 (by decide) ?_
            exact K _ _ _ _ dX5_takePart_250 (by first | exact (bit_z bit_0).1 | exact (bit_z bit_1).1) ⟨by rw [← e0]; rfl, by rw [← e0]⟩
  by_cases hk111 : sgF (M 565) (M 564) = 111
  · refine g_lookup F (off := 68) 80 dX5_takePart_12 (by decide) ((lv_osw (a := 46) hk46 rfl).trans ((lv_osw (a := 97) hk97 rfl).trans ((lv_osw (a := 100) hk100 rfl).trans ((lv_osw (a := 102) hk102 rfl).trans ((lv_osw (a := 103) hk103 rfl).trans (lv_ohit (a := 111) hk111 rfl)))))) (by decide) ?_
    have e0 : tpF (M 565) (M 564) = tpF (M 565) (M 564) := rfl
    conv at e0 => lhs; rw [tpF, tpG, if_neg hk46, if_neg hk97, if_neg hk100, if_neg hk102, if_neg hk103, if_pos hk111]
    refine g_aload_n F dX5_takePart_80 rfl 0 rfl ?_
    refine g_aload_n F dX5_takePart_81 rfl 0 rfl ?_
    refine gg5_kind F iX5_takePart_5 r564 (by decide +kernel) dX5_takePart_82 ?_
    refine g_top (y := sgF (M 565) (M 564)) (by rfl) ?_
    refine g_callV F (kX5_takeSign l _) (cwV 1 F.1.2.2.2.2 gX5_takePart_X5_takeSign rfl rfl rfl (by decide +kernel) ⟨Nat.le_of_ble_eq_true rfl, Nat.le_of_ble_eq_true rfl⟩) r564 (by decide) rfl rfl rfl rfl (Nat.le_of_ble_eq_true rfl) dX5_takePart_85 ⟨Nat.le_of_ble_eq_true rfl, Nat.le_of_ble_eq_true rfl⟩ (g_det ?_)
    try simp only [bx_uu, va_up_self, va_up_ne _ _ s565]
    refine g_ifB_eq F 112 dX5_takePart_88 (by decide) (fun h1 => ?_) (fun h1 => ?_)
    · rw [and_f h1] at e0
      refine g_iconst F (v := 0) dX5_takePart_112 (by decide) ?_
      exact K _ _ _ _ dX5_takePart_113 (by first | exact (bit_z bit_0).1 | exact (bit_z bit_1).1) ⟨by rw [← e0]; rfl, by rw [← e0]⟩
    · rw [and_t h1] at e0
      refine g_aload_n F dX5_takePart_91 rfl 0 rfl ?_
      refine g_iconst F (v := 2) dX5_takePart_92 (by decide) ?_
      refine g_callV F (kX5_takeFirst l _) (cwV 1 F.1.2.2.2.2 gX5_takePart_X5_takeFirst rfl rfl rfl (by decide +kernel) ⟨Nat.le_of_ble_eq_true rfl, Nat.le_of_ble_eq_true rfl⟩) r564 (by decide) rfl rfl rfl rfl (Nat.le_of_ble_eq_true rfl) dX5_takePart_93 ⟨Nat.le_of_ble_eq_true rfl, Nat.le_of_ble_eq_true rfl⟩ (g_det ?_)
      try simp only [bx_uu, va_up_self, va_up_ne _ _ s565]
      refine g_ifB_eq F 112 dX5_takePart_96 (by decide) (fun h2 => ?_) (fun h2 => ?_)
      · rw [and_f h2] at e0
        refine g_iconst F (v := 0) dX5_takePart_112 (by decide) ?_
        exact K _ _ _ _ dX5_takePart_113 (by first | exact (bit_z bit_0).1 | exact (bit_z bit_1).1) ⟨by rw [← e0]; rfl, by rw [← e0]⟩
      · rw [and_t h2] at e0
        refine g_aload_n F dX5_takePart_99 rfl 0 rfl ?_
        refine g_bipush F (v := 7) dX5_takePart_100 (by decide +kernel) ?_
        refine g_callV F (kX5_takeSecond l _) (cwV 1 F.1.2.2.2.2 gX5_takePart_X5_takeSecond rfl rfl rfl (by decide +kernel) ⟨Nat.le_of_ble_eq_true rfl, Nat.le_of_ble_eq_true rfl⟩) r564 (by decide) rfl rfl rfl rfl (Nat.le_of_ble_eq_true rfl) dX5_takePart_102 ⟨Nat.le_of_ble_eq_true rfl, Nat.le_of_ble_eq_true rfl⟩ (g_det ?_)
        try simp only [bx_uu, va_up_self, va_up_ne _ _ s565]
        refine g_ifB_eq F 112 dX5_takePart_105 (by decide) (fun h3 => ?_) (fun h3 => ?_)
        · rw [← pr_f h3] at e0
          refine g_iconst F (v := 0) dX5_takePart_112 (by decide) ?_
          exact K _ _ _ _ dX5_takePart_113 (by first | exact (bit_z bit_0).1 | exact (bit_z bit_1).1) ⟨by rw [← e0]; rfl, by rw [← e0]⟩
        · rw [← pr_t h3] at e0
          refine g_iconst F (v := 1) dX5_takePart_108 (by decide) ?_
          refine g_goto F 113 dX5_takePart_109 (by decide) ?_
          exact K _ _ _ _ dX5_takePart_113 (by first | exact (bit_z bit_0).1 | exact (bit_z bit_1).1) ⟨by rw [← e0]; rfl, by rw [← e0]⟩
  by_cases hk114 : sgF (M 565) (M 564) = 114
  · refine g_lookup F (off := 102) 114 dX5_takePart_12 (by decide) ((lv_osw (a := 46) hk46 rfl).trans ((lv_osw (a := 97) hk97 rfl).trans ((lv_osw (a := 100) hk100 rfl).trans ((lv_osw (a := 102) hk102 rfl).trans ((lv_osw (a := 103) hk103 rfl).trans ((lv_osw (a := 111) hk111 rfl).trans (lv_ohit (a := 114) hk114 rfl))))))) (by decide) ?_
    have e0 : tpF (M 565) (M 564) = tpF (M 565) (M 564) := rfl
    conv at e0 => lhs; rw [tpF, tpG, if_neg hk46, if_neg hk97, if_neg hk100, if_neg hk102, if_neg hk103, if_neg hk111, if_pos hk114]
    refine g_aload_n F dX5_takePart_114 rfl 0 rfl ?_
    refine g_aload_n F dX5_takePart_115 rfl 0 rfl ?_
    refine gg5_kind F iX5_takePart_5 r564 (by decide +kernel) dX5_takePart_116 ?_
    refine g_top (y := sgF (M 565) (M 564)) (by rfl) ?_
    refine g_callV F (kX5_takeSign l _) (cwV 1 F.1.2.2.2.2 gX5_takePart_X5_takeSign rfl rfl rfl (by decide +kernel) ⟨Nat.le_of_ble_eq_true rfl, Nat.le_of_ble_eq_true rfl⟩) r564 (by decide) rfl rfl rfl rfl (Nat.le_of_ble_eq_true rfl) dX5_takePart_119 ⟨Nat.le_of_ble_eq_true rfl, Nat.le_of_ble_eq_true rfl⟩ (g_det ?_)
    try simp only [bx_uu, va_up_self, va_up_ne _ _ s565]
    refine g_ifB_eq F 137 dX5_takePart_122 (by decide) (fun h1 => ?_) (fun h1 => ?_)
    · rw [and_f h1] at e0
      refine g_iconst F (v := 0) dX5_takePart_137 (by decide) ?_
      exact K _ _ _ _ dX5_takePart_138 (by first | exact (bit_z bit_0).1 | exact (bit_z bit_1).1) ⟨by rw [← e0]; rfl, by rw [← e0]⟩
    · rw [and_t h1] at e0
      refine g_aload_n F dX5_takePart_125 rfl 0 rfl ?_
      refine g_iconst F (v := 2) dX5_takePart_126 (by decide) ?_
      refine g_callV F (kX5_takeFirst l _) (cwV 1 F.1.2.2.2.2 gX5_takePart_X5_takeFirst rfl rfl rfl (by decide +kernel) ⟨Nat.le_of_ble_eq_true rfl, Nat.le_of_ble_eq_true rfl⟩) r564 (by decide) rfl rfl rfl rfl (Nat.le_of_ble_eq_true rfl) dX5_takePart_127 ⟨Nat.le_of_ble_eq_true rfl, Nat.le_of_ble_eq_true rfl⟩ (g_det ?_)
      try simp only [bx_uu, va_up_self, va_up_ne _ _ s565]
      refine g_ifB_eq F 137 dX5_takePart_130 (by decide) (fun h2 => ?_) (fun h2 => ?_)
      · rw [← pr_f h2] at e0
        refine g_iconst F (v := 0) dX5_takePart_137 (by decide) ?_
        exact K _ _ _ _ dX5_takePart_138 (by first | exact (bit_z bit_0).1 | exact (bit_z bit_1).1) ⟨by rw [← e0]; rfl, by rw [← e0]⟩
      · rw [← pr_t h2] at e0
        refine g_iconst F (v := 1) dX5_takePart_133 (by decide) ?_
        refine g_goto F 138 dX5_takePart_134 (by decide) ?_
        exact K _ _ _ _ dX5_takePart_138 (by first | exact (bit_z bit_0).1 | exact (bit_z bit_1).1) ⟨by rw [← e0]; rfl, by rw [← e0]⟩
  refine g_lookup F (off := 289) 301 dX5_takePart_12 (by decide) ((lv_osw (a := 46) hk46 rfl).trans ((lv_osw (a := 97) hk97 rfl).trans ((lv_osw (a := 100) hk100 rfl).trans ((lv_osw (a := 102) hk102 rfl).trans ((lv_osw (a := 103) hk103 rfl).trans ((lv_osw (a := 111) hk111 rfl).trans ((lv_osw (a := 114) hk114 rfl).trans (rfl)))))))) (by decide) ?_
  have e0 : tpF (M 565) (M 564) = tpF (M 565) (M 564) := rfl
  conv at e0 => lhs; rw [tpF, tpG, if_neg hk46, if_neg hk97, if_neg hk100, if_neg hk102, if_neg hk103, if_neg hk111, if_neg hk114]
  refine g_iconst F (v := 0) dX5_takePart_301 (by decide) ?_
  exact K _ _ _ _ dX5_takePart_302 (by first | exact (bit_z bit_0).1 | exact (bit_z bit_1).1) ⟨by rw [← e0]; rfl, by rw [← e0]⟩

def ffF (f : Nat → Int32) : Nat → (Nat → Int32) → Int32 × (Nat → Int32)
  | 0, g => (g 1, g)
  | n + 1, g => if (tpF f g).1 = true then (if (tpF f g).2 1 = (tpF f g).2 2 then (-1, (tpF f g).2) else if (tsF f (tpF f g).2 59).1 = true then ffF f n (tsF f (tpF f g).2 59).2 else ((tsF f (tpF f g).2 59).2 1, (tsF f (tpF f g).2 59).2)) else ((tpF f g).2 1, (tpF f g).2)
def stpF (f g : Nat → Int32) : Nat → (Nat → Int32)
  | 0 => g
  | i + 1 => (tsF f (tpF f (stpF f g i)).2 59).2

abbrev rmX5_findFault : Room := { frames := 5, cells := 0, slots := 0, locals := 107 }
theorem iX5_findFault_5 : ∀ w ∈ u_ws RX5 TX5 6, w ∈ wsX5_findFault := by decide +kernel
set_option maxHeartbeats 800000 in
set_option maxRecDepth 100000 in
theorem kX5_findFault (l : Launch) {M : Mm}  : Ct l yX5_findFault wsX5_findFault rmX5_findFault (fun B => [.ref (B + 564)]) M (fun _ v u => v = some (.int (ffF (M 565) 60 (upd (M 564) 1 0)).1) ∧ u = va_up M 564 (ffF (M 565) 60 (upd (M 564) 1 0)).2) := by
  refine Ct.ofI (own := RX5) (by decide +kernel) rfl rfl (fun B => Nat.le_of_ble_eq_true rfl) ?_
  intro pp ee ss mm aa bb me c9 DD ca B Tl AA QQ F K
  show G pp l ee rmX5_findFault ss mm aa bb me c9 QQ DD ca B Tl AA 2 0 0 M 0 [(0, .ref (B + 564))] []
  generalize hFF : ffF (M 565) 60 (upd (M 564) 1 0) = FF at K
  refine g_aload_n F dX5_findFault_0 rfl 0 rfl ?_
  refine g_callV F (kX5_goToStart l) (cwV 0 F.1.2.2.2.2 gX5_findFault_X5_goToStart rfl rfl rfl (by decide +kernel) ⟨Nat.le_of_ble_eq_true rfl, Nat.le_of_ble_eq_true rfl⟩) r564 (by decide) rfl rfl rfl rfl (Nat.le_of_ble_eq_true rfl) dX5_findFault_1 ⟨Nat.le_of_ble_eq_true rfl, Nat.le_of_ble_eq_true rfl⟩ (g_det ?_)
  try simp only [bx_uu, va_up_self, va_up_ne _ _ s565]
  refine g_iconst F (v := 0) dX5_findFault_4 (by decide) ?_
  refine g_istore_n F (lv2 := [(1, _), (0, _)]) dX5_findFault_5 rfl (by decide) rfl ?_
  have LP : ∀ (ni i : Nat), i + ni = 60 → ffF (M 565) (60 - i) (stpF (M 565) (upd (M 564) 1 0) i) = FF → G pp l ee rmX5_findFault ss mm aa bb me c9 QQ DD ca B Tl AA 2 0 0 (va_up M 564 (stpF (M 565) (upd (M 564) 1 0) i)) 6 [(1, .int (nI i)), (0, .ref (B + 564))] [] := by
    intro ni
    induction ni with
    | zero =>
      intro i hni hyi
      refine g_iload_n F dX5_findFault_6 rfl 0 rfl ?_
      refine g_bipush F (v := 60) dX5_findFault_7 (by decide +kernel) ?_
      refine g_icmpN_ge F 57 dX5_findFault_9 (by decide) (i) (60) rfl rfl (by omega) (by omega) (fun hci => ?_) (fun hci => ?_)
      · have e0 : ffF (M 565) 0 (stpF (M 565) (upd (M 564) 1 0) i) = FF := by rw [show 0 = 60 - i by omega]; exact hyi
        refine g_aload_n F dX5_findFault_57 rfl 1 rfl ?_
        refine gg5_place F iX5_findFault_5 r564 (by decide +kernel) dX5_findFault_58 ?_
        exact K _ _ _ _ dX5_findFault_61 rfl ⟨by (first | (rw [← e0]; done) | (rw [← e0]; rfl)), by (first | (rw [← e0]; done) | (rw [← e0]; rfl))⟩
      · exact absurd hci (by omega)
    | succ ni ihi =>
      intro i hni hyi
      refine g_iload_n F dX5_findFault_6 rfl 0 rfl ?_
      refine g_bipush F (v := 60) dX5_findFault_7 (by decide +kernel) ?_
      refine g_icmpN_ge F 57 dX5_findFault_9 (by decide) (i) (60) rfl rfl (by omega) (by omega) (fun hci => ?_) (fun hci => ?_)
      · exact absurd hci (by omega)
      · refine g_aload_n F dX5_findFault_12 rfl 1 rfl ?_
        refine g_callV F (kX5_takePart l) (cwV 0 F.1.2.2.2.2 gX5_findFault_X5_takePart rfl rfl rfl (by decide +kernel) ⟨Nat.le_of_ble_eq_true rfl, Nat.le_of_ble_eq_true rfl⟩) r564 (by decide) rfl rfl rfl rfl (Nat.le_of_ble_eq_true rfl) dX5_findFault_13 ⟨Nat.le_of_ble_eq_true rfl, Nat.le_of_ble_eq_true rfl⟩ (g_det ?_)
        try simp only [bx_uu, va_up_self, va_up_ne _ _ s565]
        refine g_ifB_ne F 24 dX5_findFault_16 (by decide) (fun h1 => ?_) (fun h1 => ?_)
        · refine g_aload_n F dX5_findFault_24 rfl 1 rfl ?_
          refine gg5_place F iX5_findFault_5 r564 (by decide +kernel) dX5_findFault_25 ?_
          refine g_top (y := (tpF (M 565) (stpF (M 565) (upd (M 564) 1 0) i)).2 1) (by rfl) ?_
          refine g_aload_n F dX5_findFault_28 rfl 1 rfl ?_
          refine gg5_length F iX5_findFault_5 r564 (by decide +kernel) dX5_findFault_29 ?_
          refine g_top (y := (tpF (M 565) (stpF (M 565) (upd (M 564) 1 0) i)).2 2) (by rfl) ?_
          refine g_icmp_ne F 37 dX5_findFault_32 (by decide) (fun h2 => ?_) (fun h2 => ?_)
          · refine g_aload_n F dX5_findFault_37 rfl 1 rfl ?_
            refine g_bipush F (v := 59) dX5_findFault_38 (by decide +kernel) ?_
            refine g_callV F (kX5_takeSign l _) (cwV 1 F.1.2.2.2.2 gX5_findFault_X5_takeSign rfl rfl rfl (by decide +kernel) ⟨Nat.le_of_ble_eq_true rfl, Nat.le_of_ble_eq_true rfl⟩) r564 (by decide) rfl rfl rfl rfl (Nat.le_of_ble_eq_true rfl) dX5_findFault_40 ⟨Nat.le_of_ble_eq_true rfl, Nat.le_of_ble_eq_true rfl⟩ (g_det ?_)
            try simp only [bx_uu, va_up_self, va_up_ne _ _ s565]
            refine g_ifB_ne F 51 dX5_findFault_43 (by decide) (fun h3 => ?_) (fun h3 => ?_)
            · refine g_iinc F (lv2 := [(1, _), (0, _)]) dX5_findFault_51 0 rfl (nI_1 _) (by decide) rfl ?_
              refine g_goto F 6 dX5_findFault_54 (by decide) ?_
              refine g_lv (lv2 := [(1, _), (0, _)]) [0, 1] rfl ?_
              exact g_is rfl rfl (ihi (i + 1) (by omega) (by rw [show 60 - i = (60 - (i + 1)) + 1 by omega, ffF, if_pos h1, if_neg h2, if_pos h3] at hyi; exact hyi))
            · have e0 := hyi
              rw [show 60 - i = (60 - (i + 1)) + 1 by omega, ffF, if_pos h1, if_neg h2, if_neg h3] at e0
              refine g_aload_n F dX5_findFault_46 rfl 1 rfl ?_
              refine gg5_place F iX5_findFault_5 r564 (by decide +kernel) dX5_findFault_47 ?_
              exact K _ _ _ _ dX5_findFault_50 rfl ⟨by (first | (rw [← e0]; done) | (rw [← e0]; rfl)), by (first | (rw [← e0]; done) | (rw [← e0]; rfl))⟩
          · have e0 := hyi
            rw [show 60 - i = (60 - (i + 1)) + 1 by omega, ffF, if_pos h1, if_pos h2] at e0
            refine g_iconst F (v := -1) dX5_findFault_35 (by decide) ?_
            exact K _ _ _ _ dX5_findFault_36 rfl ⟨by (first | (rw [← e0]; done) | (rw [← e0]; rfl)), by (first | (rw [← e0]; done) | (rw [← e0]; rfl))⟩
        · have e0 := hyi
          rw [show 60 - i = (60 - (i + 1)) + 1 by omega, ffF, if_neg h1] at e0
          refine g_aload_n F dX5_findFault_19 rfl 1 rfl ?_
          refine gg5_place F iX5_findFault_5 r564 (by decide +kernel) dX5_findFault_20 ?_
          refine g_top (y := (tpF (M 565) (stpF (M 565) (upd (M 564) 1 0) i)).2 1) (by rfl) ?_
          exact K _ _ _ _ dX5_findFault_23 rfl ⟨by (first | (rw [← e0]; done) | (rw [← e0]; rfl)), by (first | (rw [← e0]; done) | (rw [← e0]; rfl))⟩
  refine g_lv (lv2 := [(1, _), (0, _)]) [0, 1] rfl ?_
  exact g_is rfl rfl (LP (60 - 0) (0) (by omega) (by rw [Nat.sub_zero]; exact hFF))
