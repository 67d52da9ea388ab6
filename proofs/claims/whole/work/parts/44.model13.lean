theorem upE_AL {f : Nat → Int32} {m : Int32} : ∀ n i g, AL g → AL (upE f m n i g).2
  | 0, _, _, h => h
  | n + 1, i, g, h => by
    unfold upE
    split
    · next hc =>
      obtain ⟨a, L, h1, h2, h3, h4⟩ := h
      have hl : a < L := (nI_ltI (by omega) (by omega)).mp (by rw [← h3, ← h4]; exact hc.1)
      exact upE_AL n (i + 1) _ (AL_up hl h2 h3 h4 rfl rfl)
    · exact h
theorem upP_AL {f g : Nat → Int32} {m : Int32} (h : AL g) : AL (upP f g m).2 := upE_AL 61 0 _ (AL_of h rfl rfl)
def g1R (f g : Nat → Int32) : Nat → Int32 := upd (upd g 11 (atR f g)) 9 (g 9 + 1)
def oneR (f g : Nat → Int32) : Int32 := if g 9 < g 8 ∧ (49 ≤ atR f g ∧ atR f g ≤ 57) then 10 * (atR f g - 48) else 1
def ptD (f g : Nat → Int32) : PR := (true, upd (upd g 12 (oneR f g)) 9 (g 9 + (if 1 < oneR f g then 1 else 0)))
def ptA (e : PR) : PR := (e.1, prG e)
def ptX (g : Nat → Int32) : PR := (false, upd g 13 (g 10))
def ptG (f g : Nat → Int32) : PR := if (upP f g 23).1 = true then (if (takesR f (prG (upP f g 23)) 61).1 = true then pr2 (digR f (takesR f (prG (upP f g 23)) 61).2 4) else ptX (takesR f (prG (upP f g 23)) 61).2) else ptX (prG (upP f g 23))
def partS (f g : Nat → Int32) (k : Int32) : PR :=
  if k = 46 then ptD f g else if k = 97 then ptA (upP f g 19) else if k = 100 then pairR f g 7 2 else if k = 102 then pairR f g 7 9 else if k = 103 then ptG f g else if k = 111 then pairR f g 2 7 else if k = 114 then ptA (digR f g 2) else (false, upd g 9 (g 9 - 1))
/-- a part of the text is read -/
def partR (f g : Nat → Int32) : PR := if g 9 = g 8 then (false, g) else partS f (g1R f g) (atR f g)

abbrev rmX9_part : Room := { frames := 3, cells := 0, slots := 0, locals := 66 }
theorem iX9_part_9 : ∀ w ∈ u_ws RX9 TX9 15, w ∈ wsX9_part := by decide +kernel
set_option maxHeartbeats 400000 in
set_option maxRecDepth 100000 in
theorem kX9_part (l : Launch) {M : Mm} (hA : AL (M 709)) : Ct l yX9_part wsX9_part rmX9_part (fun B => [.ref (B + 709)]) M (fun _ v u => v = some (.int (b2i ((partR (M 715) (M 709)).1 = true))) ∧ u = va_up M 709 (partR (M 715) (M 709)).2) := by
  refine Ct.ofI (own := RX9) (by decide +kernel) rfl rfl (fun B => Nat.le_of_ble_eq_true rfl) ?_
  intro pp ee ss mm aa bb me c9 DD ca B Tl AA QQ F K
  show G pp l ee rmX9_part ss mm aa bb me c9 QQ DD ca B Tl AA 2 0 0 M 0 [(0, .ref (B + 709))] []
  obtain ⟨a, L, haL, hL, ea, eL⟩ := hA
  refine g_aload_n F dX9_part_0 rfl 0 rfl ?_
  refine gg9_at F iX9_part_9 r709 (by decide +kernel) dX9_part_1 ?_
  refine g_aload_n F dX9_part_4 rfl 0 rfl ?_
  refine gg9_length F iX9_part_9 r709 (by decide +kernel) dX9_part_5 ?_
  refine g_icmp_ne F 13 dX9_part_8 (by decide) (fun h1 => ?_) (fun h1 => ?_)
  · have haL2 : a < L := AL_lt haL hL ea eL h1
    have ep : partR (M 715) (M 709) = partS (M 715) (g1R (M 715) (M 709)) (atR (M 715) (M 709)) := if_neg h1
    have hA1 : AL (g1R (M 715) (M 709)) := AL_up haL2 hL ea eL rfl rfl
    have ea1 : (g1R (M 715) (M 709)) 9 = nI (a + 1) := by show M 709 9 + 1 = _; rw [ea]; exact nI_add a 1
    have eL1 : (g1R (M 715) (M 709)) 8 = nI L := eL
    refine g_aload_n F dX9_part_13 rfl 0 rfl ?_
    refine g_aload_n F dX9_part_14 rfl 0 rfl ?_
    refine gg9_text F iX9_part_9 r709 (by decide +kernel) dX9_part_15 ?_
    refine g_aload_n F dX9_part_18 rfl 0 rfl ?_
    refine gg9_at F iX9_part_9 r709 (by decide +kernel) dX9_part_19 ?_
    refine g_top (y := nI a) ea ?_
    refine g_iaload (r := 715) F a715 (a) rfl (by omega) (by decide) dX9_part_22 ?_
    refine g_top (y := (atR (M 715) (M 709))) (atR_n ea (by omega)).symm ?_
    refine gp9_sign F iX9_part_9 r709 (by decide +kernel) dX9_part_23 ?_
    try simp only [bx_uu, va_up_self]
    refine g_aload_n F dX9_part_26 rfl 0 rfl ?_
    refine g_dup F dX9_part_27 rfl ?_
    refine gg9_at F iX9_part_9 r709 (by decide +kernel) dX9_part_28 ?_
    refine g_iconst F (v := 1) dX9_part_31 (by decide) ?_
    refine g_iadd F dX9_part_32 ?_
    refine gp9_at F iX9_part_9 r709 (by decide +kernel) dX9_part_33 ?_
    refine g_mem (show _ = va_up M 709 (g1R (M 715) (M 709)) by rw [bx_uu]; rfl) ?_
    refine g_iconst F (v := 1) dX9_part_36 (by decide) ?_
    refine g_istore_n F (lv2 := [(1, _), (0, _)]) dX9_part_37 rfl (by decide) rfl ?_
    refine g_aload_n F dX9_part_38 rfl 1 rfl ?_
    refine gg9_sign F iX9_part_9 r709 (by decide +kernel) dX9_part_39 ?_
    refine g_top (y := (atR (M 715) (M 709))) (by rw [va_up_self]; rfl) ?_
    by_cases hk46 : (atR (M 715) (M 709)) = 46
    · refine g_lookup F (off := 176) 218 dX9_part_42 (by decide) (lv_ohit (a := 46) hk46 rfl) (by decide) ?_
      have e0 : partR (M 715) (M 709) = ptD (M 715) (g1R (M 715) (M 709)) := ep.trans (by rw [partS, if_pos hk46])
      refine g_aload_n F dX9_part_218 rfl 1 rfl ?_
      refine g_aload_n F dX9_part_219 rfl 1 rfl ?_
      refine gg9_at F iX9_part_9 r709 (by decide +kernel) dX9_part_220 ?_
      refine g_top (y := nI (a + 1)) (by rw [va_up_self]; exact ea1) ?_
      refine g_aload_n F dX9_part_223 rfl 1 rfl ?_
      refine gg9_length F iX9_part_9 r709 (by decide +kernel) dX9_part_224 ?_
      refine g_top (y := nI L) (by rw [va_up_self]; exact eL1) ?_
      refine g_icmpN_ge F 267 dX9_part_227 (by decide) ((a + 1)) (L) rfl rfl (by omega) (by omega) (fun h3 => ?_) (fun h3 => ?_)
      · have hge : ¬ (g1R (M 715) (M 709)) 9 < (g1R (M 715) (M 709)) 8 := by rw [ea1, eL1]; exact fun q => absurd ((nI_ltI (by omega) (by omega)).mp q) (by omega)
        refine g_iconst F (v := 1) dX9_part_267 (by decide) ?_
        refine g_top (y := (oneR (M 715) (g1R (M 715) (M 709)))) (by first | exact (if_pos (And.intro hlt h4)).symm | exact (if_neg (fun z => h4 z.2)).symm | exact (if_neg (fun z => hge z.1)).symm) ?_
        refine gp9_one F iX9_part_9 r709 (by decide +kernel) dX9_part_268 ?_
        refine g_mem (show _ = va_up M 709 (upd (g1R (M 715) (M 709)) 12 (oneR (M 715) (g1R (M 715) (M 709)))) by rw [bx_uu, va_up_self]) ?_
        refine g_aload_n F dX9_part_271 rfl 1 rfl ?_
        refine g_dup F dX9_part_272 rfl ?_
        refine gg9_at F iX9_part_9 r709 (by decide +kernel) dX9_part_273 ?_
        refine g_top (y := (g1R (M 715) (M 709)) 9) (by rw [va_up_self]; rfl) ?_
        refine g_aload_n F dX9_part_276 rfl 1 rfl ?_
        refine gg9_one F iX9_part_9 r709 (by decide +kernel) dX9_part_277 ?_
        refine g_top (y := (oneR (M 715) (g1R (M 715) (M 709)))) (by rw [va_up_self]; rfl) ?_
        refine g_iconst F (v := 1) dX9_part_280 (by decide) ?_
        refine g_icmp_le F 288 dX9_part_281 (by decide) (fun h5 => ?_) (fun h5 => ?_)
        · refine g_iconst F (v := 0) dX9_part_288 (by decide) ?_
          refine g_top (y := if 1 < (oneR (M 715) (g1R (M 715) (M 709))) then 1 else 0) (by first | exact (if_neg (Int32.not_lt.mpr h5)).symm | exact (if_pos (Int32.not_le.mp h5)).symm) ?_
          refine g_iadd F dX9_part_289 ?_
          refine gp9_at F iX9_part_9 r709 (by decide +kernel) dX9_part_290 ?_
          try simp only [bx_uu, va_up_self]
          refine g_iconst F (v := 1) dX9_part_293 (by decide) ?_
          exact K _ _ _ _ dX9_part_294 (by first | exact (bit_z bit_0).1 | exact (bit_z bit_1).1 | exact b2i_nar _) ⟨by rw [e0]; first | done | (rw [pr2, ← e2]; done) | (rw [pr2, ← e2]; rfl) | rfl, by rw [e0]; first | done | (rw [pr2, ← e2]; done) | (rw [pr2]; done) | (rw [pr2]; rfl) | rfl | exact (up_id M 709).symm⟩
        · refine g_iconst F (v := 1) dX9_part_284 (by decide) ?_
          refine g_goto F 289 dX9_part_285 (by decide) ?_
          refine g_top (y := if 1 < (oneR (M 715) (g1R (M 715) (M 709))) then 1 else 0) (by first | exact (if_neg (Int32.not_lt.mpr h5)).symm | exact (if_pos (Int32.not_le.mp h5)).symm) ?_
          refine g_iadd F dX9_part_289 ?_
          refine gp9_at F iX9_part_9 r709 (by decide +kernel) dX9_part_290 ?_
          try simp only [bx_uu, va_up_self]
          refine g_iconst F (v := 1) dX9_part_293 (by decide) ?_
          exact K _ _ _ _ dX9_part_294 (by first | exact (bit_z bit_0).1 | exact (bit_z bit_1).1 | exact b2i_nar _) ⟨by rw [e0]; first | done | (rw [pr2, ← e2]; done) | (rw [pr2, ← e2]; rfl) | rfl, by rw [e0]; first | done | (rw [pr2, ← e2]; done) | (rw [pr2]; done) | (rw [pr2]; rfl) | rfl | exact (up_id M 709).symm⟩
      · have hlt : (g1R (M 715) (M 709)) 9 < (g1R (M 715) (M 709)) 8 := by rw [ea1, eL1]; exact (nI_ltI (by omega) (by omega)).mpr (by omega)
        refine g_aload_n F dX9_part_230 rfl 1 rfl ?_
        refine gg9_text F iX9_part_9 r709 (by decide +kernel) dX9_part_231 ?_
        refine g_aload_n F dX9_part_234 rfl 1 rfl ?_
        refine gg9_at F iX9_part_9 r709 (by decide +kernel) dX9_part_235 ?_
        refine g_top (y := nI (a + 1)) (by rw [va_up_self]; exact ea1) ?_
        refine g_iaload (r := 715) F a715 ((a + 1)) rfl (by omega) (by decide) dX9_part_238 ?_
        refine g_top (y := atR (M 715) (g1R (M 715) (M 709))) (atR_n ea1 (by omega)).symm ?_
        refine g_bipush F (v := 49) dX9_part_239 (by decide +kernel) ?_
        refine g_bipush F (v := 57) dX9_part_241 (by decide +kernel) ?_
        refine g_callS F (kX9_within l _ _ _) (va_cwS 3 F.1.2.2.2.2 gX9_part_X9_within rfl rfl rfl (by decide +kernel) ⟨Nat.le_of_ble_eq_true rfl, Nat.le_of_ble_eq_true rfl⟩) rfl rfl rfl (Nat.le_of_ble_eq_true rfl) dX9_part_243 ⟨Nat.le_of_ble_eq_true rfl, Nat.le_of_ble_eq_true rfl⟩ (g_det ?_)
        refine g_ifB_eq F 267 dX9_part_246 (by decide) (fun h4 => ?_) (fun h4 => ?_)
        · refine g_iconst F (v := 1) dX9_part_267 (by decide) ?_
          refine g_top (y := (oneR (M 715) (g1R (M 715) (M 709)))) (by first | exact (if_pos (And.intro hlt h4)).symm | exact (if_neg (fun z => h4 z.2)).symm | exact (if_neg (fun z => hge z.1)).symm) ?_
          refine gp9_one F iX9_part_9 r709 (by decide +kernel) dX9_part_268 ?_
          refine g_mem (show _ = va_up M 709 (upd (g1R (M 715) (M 709)) 12 (oneR (M 715) (g1R (M 715) (M 709)))) by rw [bx_uu, va_up_self]) ?_
          refine g_aload_n F dX9_part_271 rfl 1 rfl ?_
          refine g_dup F dX9_part_272 rfl ?_
          refine gg9_at F iX9_part_9 r709 (by decide +kernel) dX9_part_273 ?_
          refine g_top (y := (g1R (M 715) (M 709)) 9) (by rw [va_up_self]; rfl) ?_
          refine g_aload_n F dX9_part_276 rfl 1 rfl ?_
          refine gg9_one F iX9_part_9 r709 (by decide +kernel) dX9_part_277 ?_
          refine g_top (y := (oneR (M 715) (g1R (M 715) (M 709)))) (by rw [va_up_self]; rfl) ?_
          refine g_iconst F (v := 1) dX9_part_280 (by decide) ?_
          refine g_icmp_le F 288 dX9_part_281 (by decide) (fun h5 => ?_) (fun h5 => ?_)
          · refine g_iconst F (v := 0) dX9_part_288 (by decide) ?_
            refine g_top (y := if 1 < (oneR (M 715) (g1R (M 715) (M 709))) then 1 else 0) (by first | exact (if_neg (Int32.not_lt.mpr h5)).symm | exact (if_pos (Int32.not_le.mp h5)).symm) ?_
            refine g_iadd F dX9_part_289 ?_
            refine gp9_at F iX9_part_9 r709 (by decide +kernel) dX9_part_290 ?_
            try simp only [bx_uu, va_up_self]
            refine g_iconst F (v := 1) dX9_part_293 (by decide) ?_
            exact K _ _ _ _ dX9_part_294 (by first | exact (bit_z bit_0).1 | exact (bit_z bit_1).1 | exact b2i_nar _) ⟨by rw [e0]; first | done | (rw [pr2, ← e2]; done) | (rw [pr2, ← e2]; rfl) | rfl, by rw [e0]; first | done | (rw [pr2, ← e2]; done) | (rw [pr2]; done) | (rw [pr2]; rfl) | rfl | exact (up_id M 709).symm⟩
          · refine g_iconst F (v := 1) dX9_part_284 (by decide) ?_
            refine g_goto F 289 dX9_part_285 (by decide) ?_
            refine g_top (y := if 1 < (oneR (M 715) (g1R (M 715) (M 709))) then 1 else 0) (by first | exact (if_neg (Int32.not_lt.mpr h5)).symm | exact (if_pos (Int32.not_le.mp h5)).symm) ?_
            refine g_iadd F dX9_part_289 ?_
            refine gp9_at F iX9_part_9 r709 (by decide +kernel) dX9_part_290 ?_
            try simp only [bx_uu, va_up_self]
            refine g_iconst F (v := 1) dX9_part_293 (by decide) ?_
            exact K _ _ _ _ dX9_part_294 (by first | exact (bit_z bit_0).1 | exact (bit_z bit_1).1 | exact b2i_nar _) ⟨by rw [e0]; first | done | (rw [pr2, ← e2]; done) | (rw [pr2, ← e2]; rfl) | rfl, by rw [e0]; first | done | (rw [pr2, ← e2]; done) | (rw [pr2]; done) | (rw [pr2]; rfl) | rfl | exact (up_id M 709).symm⟩
        · refine g_bipush F (v := 10) dX9_part_249 (by decide +kernel) ?_
          refine g_aload_n F dX9_part_251 rfl 1 rfl ?_
          refine gg9_text F iX9_part_9 r709 (by decide +kernel) dX9_part_252 ?_
          refine g_aload_n F dX9_part_255 rfl 1 rfl ?_
          refine gg9_at F iX9_part_9 r709 (by decide +kernel) dX9_part_256 ?_
          refine g_top (y := nI (a + 1)) (by rw [va_up_self]; exact ea1) ?_
          refine g_iaload (r := 715) F a715 ((a + 1)) rfl (by omega) (by decide) dX9_part_259 ?_
          refine g_top (y := atR (M 715) (g1R (M 715) (M 709))) (atR_n ea1 (by omega)).symm ?_
          refine g_bipush F (v := 48) dX9_part_260 (by decide +kernel) ?_
          refine g_isub F dX9_part_262 ?_
          refine g_imul F dX9_part_263 ?_
          refine g_goto F 268 dX9_part_264 (by decide) ?_
          refine g_top (y := (oneR (M 715) (g1R (M 715) (M 709)))) (by first | exact (if_pos (And.intro hlt h4)).symm | exact (if_neg (fun z => h4 z.2)).symm | exact (if_neg (fun z => hge z.1)).symm) ?_
          refine gp9_one F iX9_part_9 r709 (by decide +kernel) dX9_part_268 ?_
          refine g_mem (show _ = va_up M 709 (upd (g1R (M 715) (M 709)) 12 (oneR (M 715) (g1R (M 715) (M 709)))) by rw [bx_uu, va_up_self]) ?_
          refine g_aload_n F dX9_part_271 rfl 1 rfl ?_
          refine g_dup F dX9_part_272 rfl ?_
          refine gg9_at F iX9_part_9 r709 (by decide +kernel) dX9_part_273 ?_
          refine g_top (y := (g1R (M 715) (M 709)) 9) (by rw [va_up_self]; rfl) ?_
          refine g_aload_n F dX9_part_276 rfl 1 rfl ?_
          refine gg9_one F iX9_part_9 r709 (by decide +kernel) dX9_part_277 ?_
          refine g_top (y := (oneR (M 715) (g1R (M 715) (M 709)))) (by rw [va_up_self]; rfl) ?_
          refine g_iconst F (v := 1) dX9_part_280 (by decide) ?_
          refine g_icmp_le F 288 dX9_part_281 (by decide) (fun h5 => ?_) (fun h5 => ?_)
          · refine g_iconst F (v := 0) dX9_part_288 (by decide) ?_
            refine g_top (y := if 1 < (oneR (M 715) (g1R (M 715) (M 709))) then 1 else 0) (by first | exact (if_neg (Int32.not_lt.mpr h5)).symm | exact (if_pos (Int32.not_le.mp h5)).symm) ?_
            refine g_iadd F dX9_part_289 ?_
            refine gp9_at F iX9_part_9 r709 (by decide +kernel) dX9_part_290 ?_
            try simp only [bx_uu, va_up_self]
            refine g_iconst F (v := 1) dX9_part_293 (by decide) ?_
            exact K _ _ _ _ dX9_part_294 (by first | exact (bit_z bit_0).1 | exact (bit_z bit_1).1 | exact b2i_nar _) ⟨by rw [e0]; first | done | (rw [pr2, ← e2]; done) | (rw [pr2, ← e2]; rfl) | rfl, by rw [e0]; first | done | (rw [pr2, ← e2]; done) | (rw [pr2]; done) | (rw [pr2]; rfl) | rfl | exact (up_id M 709).symm⟩
          · refine g_iconst F (v := 1) dX9_part_284 (by decide) ?_
            refine g_goto F 289 dX9_part_285 (by decide) ?_
            refine g_top (y := if 1 < (oneR (M 715) (g1R (M 715) (M 709))) then 1 else 0) (by first | exact (if_neg (Int32.not_lt.mpr h5)).symm | exact (if_pos (Int32.not_le.mp h5)).symm) ?_
            refine g_iadd F dX9_part_289 ?_
            refine gp9_at F iX9_part_9 r709 (by decide +kernel) dX9_part_290 ?_
            try simp only [bx_uu, va_up_self]
            refine g_iconst F (v := 1) dX9_part_293 (by decide) ?_
            exact K _ _ _ _ dX9_part_294 (by first | exact (bit_z bit_0).1 | exact (bit_z bit_1).1 | exact b2i_nar _) ⟨by rw [e0]; first | done | (rw [pr2, ← e2]; done) | (rw [pr2, ← e2]; rfl) | rfl, by rw [e0]; first | done | (rw [pr2, ← e2]; done) | (rw [pr2]; done) | (rw [pr2]; rfl) | rfl | exact (up_id M 709).symm⟩
    by_cases hk97 : (atR (M 715) (M 709)) = 97
    · refine g_lookup F (off := 159) 201 dX9_part_42 (by decide) ((lv_osw (a := 46) hk46 rfl).trans (lv_ohit (a := 97) hk97 rfl)) (by decide) ?_
      have e0 : partR (M 715) (M 709) = ptA (upP (M 715) (g1R (M 715) (M 709)) 19) := ep.trans (by rw [partS, if_neg hk46, if_pos hk97])
      refine g_aload_n F dX9_part_201 rfl 1 rfl ?_
      refine g_bipush F (v := 19) dX9_part_202 (by decide +kernel) ?_
      refine g_callV F (kX9_upTo l (M := va_up M 709 (g1R (M 715) (M 709))) (by rw [va_up_self]; exact hA1) _) (cwV 1 F.1.2.2.2.2 gX9_part_X9_upTo rfl rfl rfl (by decide +kernel) ⟨Nat.le_of_ble_eq_true rfl, Nat.le_of_ble_eq_true rfl⟩) r709 (by decide) rfl rfl rfl rfl (Nat.le_of_ble_eq_true rfl) dX9_part_204 ⟨Nat.le_of_ble_eq_true rfl, Nat.le_of_ble_eq_true rfl⟩ (g_det ?_)
      refine g_mem (show _ = va_up M 709 (upP (M 715) (g1R (M 715) (M 709)) 19).2 by rw [bx_uu, va_up_self]; rfl) ?_
      refine g_top (show _ = b2i ((upP (M 715) (g1R (M 715) (M 709)) 19).1 = true) by rw [va_up_self]; rfl) ?_
      refine g_istore_n F (lv2 := [(1, _), (0, _)]) dX9_part_207 rfl (by decide) rfl ?_
      refine g_aload_n F dX9_part_208 rfl 1 rfl ?_
      refine g_aload_n F dX9_part_209 rfl 1 rfl ?_
      refine gg9_number F iX9_part_9 r709 (by decide +kernel) dX9_part_210 ?_
      refine gp9_one F iX9_part_9 r709 (by decide +kernel) dX9_part_213 ?_
      refine g_mem (show _ = va_up M 709 (prG (upP (M 715) (g1R (M 715) (M 709)) 19)) by rw [bx_uu, va_up_self]; rfl) ?_
      refine g_iload_n F dX9_part_216 rfl 0 rfl ?_
      exact K _ _ _ _ dX9_part_217 (by first | exact (bit_z bit_0).1 | exact (bit_z bit_1).1 | exact b2i_nar _) ⟨by rw [e0]; first | done | (rw [pr2, ← e2]; done) | (rw [pr2, ← e2]; rfl) | rfl, by rw [e0]; first | done | (rw [pr2, ← e2]; done) | (rw [pr2]; done) | (rw [pr2]; rfl) | rfl | exact (up_id M 709).symm⟩
    by_cases hk100 : (atR (M 715) (M 709)) = 100
    · refine g_lookup F (off := 99) 141 dX9_part_42 (by decide) ((lv_osw (a := 46) hk46 rfl).trans ((lv_osw (a := 97) hk97 rfl).trans (lv_ohit (a := 100) hk100 rfl))) (by decide) ?_
      have e0 : partR (M 715) (M 709) = pairR (M 715) (g1R (M 715) (M 709)) 7 2 := ep.trans (by rw [partS, if_neg hk46, if_neg hk97, if_pos hk100])
      refine g_aload_n F dX9_part_141 rfl 1 rfl ?_
      refine g_bipush F (v := 7) dX9_part_142 (by decide +kernel) ?_
      refine g_iconst F (v := 2) dX9_part_144 (by decide) ?_
      refine g_callV F (kX9_pair l (M := va_up M 709 (g1R (M 715) (M 709))) (by rw [va_up_self]; exact hA1) _ _) (cwV 2 F.1.2.2.2.2 gX9_part_X9_pair rfl rfl rfl (by decide +kernel) ⟨Nat.le_of_ble_eq_true rfl, Nat.le_of_ble_eq_true rfl⟩) r709 (by decide) rfl rfl rfl rfl (Nat.le_of_ble_eq_true rfl) dX9_part_145 ⟨Nat.le_of_ble_eq_true rfl, Nat.le_of_ble_eq_true rfl⟩ (g_det ?_)
      refine g_mem (show _ = va_up M 709 (pairR (M 715) (g1R (M 715) (M 709)) 7 2).2 by rw [bx_uu, va_up_self]; rfl) ?_
      refine g_top (show _ = b2i ((pairR (M 715) (g1R (M 715) (M 709)) 7 2).1 = true) by rw [va_up_self]; rfl) ?_
      exact K _ _ _ _ dX9_part_148 (by first | exact (bit_z bit_0).1 | exact (bit_z bit_1).1 | exact b2i_nar _) ⟨by rw [e0]; first | done | (rw [pr2, ← e2]; done) | (rw [pr2, ← e2]; rfl) | rfl, by rw [e0]; first | done | (rw [pr2, ← e2]; done) | (rw [pr2]; done) | (rw [pr2]; rfl) | rfl | exact (up_id M 709).symm⟩
    by_cases hk102 : (atR (M 715) (M 709)) = 102
    · refine g_lookup F (off := 90) 132 dX9_part_42 (by decide) ((lv_osw (a := 46) hk46 rfl).trans ((lv_osw (a := 97) hk97 rfl).trans ((lv_osw (a := 100) hk100 rfl).trans (lv_ohit (a := 102) hk102 rfl)))) (by decide) ?_
      have e0 : partR (M 715) (M 709) = pairR (M 715) (g1R (M 715) (M 709)) 7 9 := ep.trans (by rw [partS, if_neg hk46, if_neg hk97, if_neg hk100, if_pos hk102])
      refine g_aload_n F dX9_part_132 rfl 1 rfl ?_
      refine g_bipush F (v := 7) dX9_part_133 (by decide +kernel) ?_
      refine g_bipush F (v := 9) dX9_part_135 (by decide +kernel) ?_
      refine g_callV F (kX9_pair l (M := va_up M 709 (g1R (M 715) (M 709))) (by rw [va_up_self]; exact hA1) _ _) (cwV 2 F.1.2.2.2.2 gX9_part_X9_pair rfl rfl rfl (by decide +kernel) ⟨Nat.le_of_ble_eq_true rfl, Nat.le_of_ble_eq_true rfl⟩) r709 (by decide) rfl rfl rfl rfl (Nat.le_of_ble_eq_true rfl) dX9_part_137 ⟨Nat.le_of_ble_eq_true rfl, Nat.le_of_ble_eq_true rfl⟩ (g_det ?_)
      refine g_mem (show _ = va_up M 709 (pairR (M 715) (g1R (M 715) (M 709)) 7 9).2 by rw [bx_uu, va_up_self]; rfl) ?_
      refine g_top (show _ = b2i ((pairR (M 715) (g1R (M 715) (M 709)) 7 9).1 = true) by rw [va_up_self]; rfl) ?_
      exact K _ _ _ _ dX9_part_140 (by first | exact (bit_z bit_0).1 | exact (bit_z bit_1).1 | exact b2i_nar _) ⟨by rw [e0]; first | done | (rw [pr2, ← e2]; done) | (rw [pr2, ← e2]; rfl) | rfl, by rw [e0]; first | done | (rw [pr2, ← e2]; done) | (rw [pr2]; done) | (rw [pr2]; rfl) | rfl | exact (up_id M 709).symm⟩
    by_cases hk103 : (atR (M 715) (M 709)) = 103
    · refine g_lookup F (off := 107) 149 dX9_part_42 (by decide) ((lv_osw (a := 46) hk46 rfl).trans ((lv_osw (a := 97) hk97 rfl).trans ((lv_osw (a := 100) hk100 rfl).trans ((lv_osw (a := 102) hk102 rfl).trans (lv_ohit (a := 103) hk103 rfl))))) (by decide) ?_
      have e0 : partR (M 715) (M 709) = ptG (M 715) (g1R (M 715) (M 709)) := ep.trans (by rw [partS, if_neg hk46, if_neg hk97, if_neg hk100, if_neg hk102, if_pos hk103])
      refine g_aload_n F dX9_part_149 rfl 1 rfl ?_
      refine g_bipush F (v := 23) dX9_part_150 (by decide +kernel) ?_
      refine g_callV F (kX9_upTo l (M := va_up M 709 (g1R (M 715) (M 709))) (by rw [va_up_self]; exact hA1) _) (cwV 1 F.1.2.2.2.2 gX9_part_X9_upTo rfl rfl rfl (by decide +kernel) ⟨Nat.le_of_ble_eq_true rfl, Nat.le_of_ble_eq_true rfl⟩) r709 (by decide) rfl rfl rfl rfl (Nat.le_of_ble_eq_true rfl) dX9_part_152 ⟨Nat.le_of_ble_eq_true rfl, Nat.le_of_ble_eq_true rfl⟩ (g_det ?_)
      refine g_mem (show _ = va_up M 709 (upP (M 715) (g1R (M 715) (M 709)) 23).2 by rw [bx_uu, va_up_self]; rfl) ?_
      refine g_top (show _ = b2i ((upP (M 715) (g1R (M 715) (M 709)) 23).1 = true) by rw [va_up_self]; rfl) ?_
      refine g_istore_n F (lv2 := [(1, _), (0, _)]) dX9_part_155 rfl (by decide) rfl ?_
      refine g_aload_n F dX9_part_156 rfl 1 rfl ?_
      refine g_aload_n F dX9_part_157 rfl 1 rfl ?_
      refine gg9_number F iX9_part_9 r709 (by decide +kernel) dX9_part_158 ?_
      refine gp9_one F iX9_part_9 r709 (by decide +kernel) dX9_part_161 ?_
      refine g_mem (show _ = va_up M 709 (prG (upP (M 715) (g1R (M 715) (M 709)) 23)) by rw [bx_uu, va_up_self]; rfl) ?_
      refine g_iload_n F dX9_part_164 rfl 0 rfl ?_
      refine g_ifB_eq F 189 dX9_part_165 (by decide) (fun hq1 => ?_) (fun hq1 => ?_)
      · replace e0 := e0.trans (if_neg hq1)
        refine g_iconst F (v := 0) dX9_part_189 (by decide) ?_
        refine g_istore_n F (lv2 := [(1, _), (0, _)]) dX9_part_190 rfl (by decide) rfl ?_
        refine g_aload_n F dX9_part_191 rfl 1 rfl ?_
        refine g_aload_n F dX9_part_192 rfl 1 rfl ?_
        refine gg9_number F iX9_part_9 r709 (by decide +kernel) dX9_part_193 ?_
        refine gp9_two F iX9_part_9 r709 (by decide +kernel) dX9_part_196 ?_
        try simp only [bx_uu, va_up_self]
        refine g_iload_n F dX9_part_199 rfl 0 rfl ?_
        exact K _ _ _ _ dX9_part_200 (by first | exact (bit_z bit_0).1 | exact (bit_z bit_1).1 | exact b2i_nar _) ⟨by rw [e0]; first | done | (rw [pr2, ← e2]; done) | (rw [pr2, ← e2]; rfl) | rfl, by rw [e0]; first | done | (rw [pr2, ← e2]; done) | (rw [pr2]; done) | (rw [pr2]; rfl) | rfl | exact (up_id M 709).symm⟩
      · replace e0 := e0.trans (if_pos hq1)
        refine g_aload_n F dX9_part_168 rfl 1 rfl ?_
        refine g_bipush F (v := 61) dX9_part_169 (by decide +kernel) ?_
        refine g_callV F (kX9_takes l (M := va_up M 709 (prG (upP (M 715) (g1R (M 715) (M 709)) 23))) (by rw [va_up_self]; exact (AL_of (upP_AL hA1) rfl rfl)) _) (cwV 1 F.1.2.2.2.2 gX9_part_X9_takes rfl rfl rfl (by decide +kernel) ⟨Nat.le_of_ble_eq_true rfl, Nat.le_of_ble_eq_true rfl⟩) r709 (by decide) rfl rfl rfl rfl (Nat.le_of_ble_eq_true rfl) dX9_part_171 ⟨Nat.le_of_ble_eq_true rfl, Nat.le_of_ble_eq_true rfl⟩ (g_det ?_)
        refine g_mem (show _ = va_up M 709 (takesR (M 715) (prG (upP (M 715) (g1R (M 715) (M 709)) 23)) 61).2 by rw [bx_uu, va_up_self]; rfl) ?_
        refine g_top (show _ = b2i ((takesR (M 715) (prG (upP (M 715) (g1R (M 715) (M 709)) 23)) 61).1 = true) by rw [va_up_self]; rfl) ?_
        refine g_ifB_eq F 189 dX9_part_174 (by decide) (fun hq2 => ?_) (fun hq2 => ?_)
        · replace e0 := e0.trans (if_neg hq2)
          refine g_iconst F (v := 0) dX9_part_189 (by decide) ?_
          refine g_istore_n F (lv2 := [(1, _), (0, _)]) dX9_part_190 rfl (by decide) rfl ?_
          refine g_aload_n F dX9_part_191 rfl 1 rfl ?_
          refine g_aload_n F dX9_part_192 rfl 1 rfl ?_
          refine gg9_number F iX9_part_9 r709 (by decide +kernel) dX9_part_193 ?_
          refine gp9_two F iX9_part_9 r709 (by decide +kernel) dX9_part_196 ?_
          try simp only [bx_uu, va_up_self]
          refine g_iload_n F dX9_part_199 rfl 0 rfl ?_
          exact K _ _ _ _ dX9_part_200 (by first | exact (bit_z bit_0).1 | exact (bit_z bit_1).1 | exact b2i_nar _) ⟨by rw [e0]; first | done | (rw [pr2, ← e2]; done) | (rw [pr2, ← e2]; rfl) | rfl, by rw [e0]; first | done | (rw [pr2, ← e2]; done) | (rw [pr2]; done) | (rw [pr2]; rfl) | rfl | exact (up_id M 709).symm⟩
        · replace e0 := e0.trans (if_pos hq2)
          refine g_aload_n F dX9_part_177 rfl 1 rfl ?_
          refine g_iconst F (v := 4) dX9_part_178 (by decide) ?_
          refine g_callV F (kX9_digit l (M := va_up M 709 (takesR (M 715) (prG (upP (M 715) (g1R (M 715) (M 709)) 23)) 61).2) (by rw [va_up_self]; exact (takesR_AL (AL_of (upP_AL hA1) rfl rfl))) _) (cwV 1 F.1.2.2.2.2 gX9_part_X9_digit rfl rfl rfl (by decide +kernel) ⟨Nat.le_of_ble_eq_true rfl, Nat.le_of_ble_eq_true rfl⟩) r709 (by decide) rfl rfl rfl rfl (Nat.le_of_ble_eq_true rfl) dX9_part_179 ⟨Nat.le_of_ble_eq_true rfl, Nat.le_of_ble_eq_true rfl⟩ (g_det ?_)
          refine g_mem (show _ = va_up M 709 (digR (M 715) (takesR (M 715) (prG (upP (M 715) (g1R (M 715) (M 709)) 23)) 61).2 4).2 by rw [bx_uu, va_up_self]; rfl) ?_
          refine g_top (show _ = b2i ((digR (M 715) (takesR (M 715) (prG (upP (M 715) (g1R (M 715) (M 709)) 23)) 61).2 4).1 = true) by rw [va_up_self]; rfl) ?_
          refine g_ifB_eq F 189 dX9_part_182 (by decide) (fun hq3 => ?_) (fun hq3 => ?_)
          · have e2 := pr_f hq3
            refine g_iconst F (v := 0) dX9_part_189 (by decide) ?_
            refine g_istore_n F (lv2 := [(1, _), (0, _)]) dX9_part_190 rfl (by decide) rfl ?_
            refine g_aload_n F dX9_part_191 rfl 1 rfl ?_
            refine g_aload_n F dX9_part_192 rfl 1 rfl ?_
            refine gg9_number F iX9_part_9 r709 (by decide +kernel) dX9_part_193 ?_
            refine gp9_two F iX9_part_9 r709 (by decide +kernel) dX9_part_196 ?_
            try simp only [bx_uu, va_up_self]
            refine g_iload_n F dX9_part_199 rfl 0 rfl ?_
            exact K _ _ _ _ dX9_part_200 (by first | exact (bit_z bit_0).1 | exact (bit_z bit_1).1 | exact b2i_nar _) ⟨by rw [e0]; first | done | (rw [pr2, ← e2]; done) | (rw [pr2, ← e2]; rfl) | rfl, by rw [e0]; first | done | (rw [pr2, ← e2]; done) | (rw [pr2]; done) | (rw [pr2]; rfl) | rfl | exact (up_id M 709).symm⟩
          · have e2 := pr_t hq3
            refine g_iconst F (v := 1) dX9_part_185 (by decide) ?_
            refine g_goto F 190 dX9_part_186 (by decide) ?_
            refine g_istore_n F (lv2 := [(1, _), (0, _)]) dX9_part_190 rfl (by decide) rfl ?_
            refine g_aload_n F dX9_part_191 rfl 1 rfl ?_
            refine g_aload_n F dX9_part_192 rfl 1 rfl ?_
            refine gg9_number F iX9_part_9 r709 (by decide +kernel) dX9_part_193 ?_
            refine gp9_two F iX9_part_9 r709 (by decide +kernel) dX9_part_196 ?_
            try simp only [bx_uu, va_up_self]
            refine g_iload_n F dX9_part_199 rfl 0 rfl ?_
            exact K _ _ _ _ dX9_part_200 (by first | exact (bit_z bit_0).1 | exact (bit_z bit_1).1 | exact b2i_nar _) ⟨by rw [e0]; first | done | (rw [pr2, ← e2]; done) | (rw [pr2, ← e2]; rfl) | rfl, by rw [e0]; first | done | (rw [pr2, ← e2]; done) | (rw [pr2]; done) | (rw [pr2]; rfl) | rfl | exact (up_id M 709).symm⟩
    by_cases hk111 : (atR (M 715) (M 709)) = 111
    · refine g_lookup F (off := 66) 108 dX9_part_42 (by decide) ((lv_osw (a := 46) hk46 rfl).trans ((lv_osw (a := 97) hk97 rfl).trans ((lv_osw (a := 100) hk100 rfl).trans ((lv_osw (a := 102) hk102 rfl).trans ((lv_osw (a := 103) hk103 rfl).trans (lv_ohit (a := 111) hk111 rfl)))))) (by decide) ?_
      have e0 : partR (M 715) (M 709) = pairR (M 715) (g1R (M 715) (M 709)) 2 7 := ep.trans (by rw [partS, if_neg hk46, if_neg hk97, if_neg hk100, if_neg hk102, if_neg hk103, if_pos hk111])
      refine g_aload_n F dX9_part_108 rfl 1 rfl ?_
      refine g_iconst F (v := 2) dX9_part_109 (by decide) ?_
      refine g_bipush F (v := 7) dX9_part_110 (by decide +kernel) ?_
      refine g_callV F (kX9_pair l (M := va_up M 709 (g1R (M 715) (M 709))) (by rw [va_up_self]; exact hA1) _ _) (cwV 2 F.1.2.2.2.2 gX9_part_X9_pair rfl rfl rfl (by decide +kernel) ⟨Nat.le_of_ble_eq_true rfl, Nat.le_of_ble_eq_true rfl⟩) r709 (by decide) rfl rfl rfl rfl (Nat.le_of_ble_eq_true rfl) dX9_part_112 ⟨Nat.le_of_ble_eq_true rfl, Nat.le_of_ble_eq_true rfl⟩ (g_det ?_)
      refine g_mem (show _ = va_up M 709 (pairR (M 715) (g1R (M 715) (M 709)) 2 7).2 by rw [bx_uu, va_up_self]; rfl) ?_
      refine g_top (show _ = b2i ((pairR (M 715) (g1R (M 715) (M 709)) 2 7).1 = true) by rw [va_up_self]; rfl) ?_
      exact K _ _ _ _ dX9_part_115 (by first | exact (bit_z bit_0).1 | exact (bit_z bit_1).1 | exact b2i_nar _) ⟨by rw [e0]; first | done | (rw [pr2, ← e2]; done) | (rw [pr2, ← e2]; rfl) | rfl, by rw [e0]; first | done | (rw [pr2, ← e2]; done) | (rw [pr2]; done) | (rw [pr2]; rfl) | rfl | exact (up_id M 709).symm⟩
    by_cases hk114 : (atR (M 715) (M 709)) = 114
    · refine g_lookup F (off := 74) 116 dX9_part_42 (by decide) ((lv_osw (a := 46) hk46 rfl).trans ((lv_osw (a := 97) hk97 rfl).trans ((lv_osw (a := 100) hk100 rfl).trans ((lv_osw (a := 102) hk102 rfl).trans ((lv_osw (a := 103) hk103 rfl).trans ((lv_osw (a := 111) hk111 rfl).trans (lv_ohit (a := 114) hk114 rfl))))))) (by decide) ?_
      have e0 : partR (M 715) (M 709) = ptA (digR (M 715) (g1R (M 715) (M 709)) 2) := ep.trans (by rw [partS, if_neg hk46, if_neg hk97, if_neg hk100, if_neg hk102, if_neg hk103, if_neg hk111, if_pos hk114])
      refine g_aload_n F dX9_part_116 rfl 1 rfl ?_
      refine g_iconst F (v := 2) dX9_part_117 (by decide) ?_
      refine g_callV F (kX9_digit l (M := va_up M 709 (g1R (M 715) (M 709))) (by rw [va_up_self]; exact hA1) _) (cwV 1 F.1.2.2.2.2 gX9_part_X9_digit rfl rfl rfl (by decide +kernel) ⟨Nat.le_of_ble_eq_true rfl, Nat.le_of_ble_eq_true rfl⟩) r709 (by decide) rfl rfl rfl rfl (Nat.le_of_ble_eq_true rfl) dX9_part_118 ⟨Nat.le_of_ble_eq_true rfl, Nat.le_of_ble_eq_true rfl⟩ (g_det ?_)
      refine g_mem (show _ = va_up M 709 (digR (M 715) (g1R (M 715) (M 709)) 2).2 by rw [bx_uu, va_up_self]; rfl) ?_
      refine g_top (show _ = b2i ((digR (M 715) (g1R (M 715) (M 709)) 2).1 = true) by rw [va_up_self]; rfl) ?_
      refine g_istore_n F (lv2 := [(1, _), (0, _)]) dX9_part_121 rfl (by decide) rfl ?_
      refine g_aload_n F dX9_part_122 rfl 1 rfl ?_
      refine g_aload_n F dX9_part_123 rfl 1 rfl ?_
      refine gg9_number F iX9_part_9 r709 (by decide +kernel) dX9_part_124 ?_
      refine gp9_one F iX9_part_9 r709 (by decide +kernel) dX9_part_127 ?_
      refine g_mem (show _ = va_up M 709 (prG (digR (M 715) (g1R (M 715) (M 709)) 2)) by rw [bx_uu, va_up_self]; rfl) ?_
      refine g_iload_n F dX9_part_130 rfl 0 rfl ?_
      exact K _ _ _ _ dX9_part_131 (by first | exact (bit_z bit_0).1 | exact (bit_z bit_1).1 | exact b2i_nar _) ⟨by rw [e0]; first | done | (rw [pr2, ← e2]; done) | (rw [pr2, ← e2]; rfl) | rfl, by rw [e0]; first | done | (rw [pr2, ← e2]; done) | (rw [pr2]; done) | (rw [pr2]; rfl) | rfl | exact (up_id M 709).symm⟩
    refine g_lookup F (off := 253) 295 dX9_part_42 (by decide) ((lv_osw (a := 46) hk46 rfl).trans ((lv_osw (a := 97) hk97 rfl).trans ((lv_osw (a := 100) hk100 rfl).trans ((lv_osw (a := 102) hk102 rfl).trans ((lv_osw (a := 103) hk103 rfl).trans ((lv_osw (a := 111) hk111 rfl).trans ((lv_osw (a := 114) hk114 rfl).trans (rfl)))))))) (by decide) ?_
    have e0 : partR (M 715) (M 709) = (false, upd (g1R (M 715) (M 709)) 9 ((g1R (M 715) (M 709)) 9 - 1)) := ep.trans (by rw [partS, if_neg hk46, if_neg hk97, if_neg hk100, if_neg hk102, if_neg hk103, if_neg hk111, if_neg hk114])
    refine g_aload_n F dX9_part_295 rfl 1 rfl ?_
    refine g_dup F dX9_part_296 rfl ?_
    refine gg9_at F iX9_part_9 r709 (by decide +kernel) dX9_part_297 ?_
    refine g_iconst F (v := 1) dX9_part_300 (by decide) ?_
    refine g_isub F dX9_part_301 ?_
    refine gp9_at F iX9_part_9 r709 (by decide +kernel) dX9_part_302 ?_
    try simp only [bx_uu, va_up_self]
    refine g_iconst F (v := 0) dX9_part_305 (by decide) ?_
    exact K _ _ _ _ dX9_part_306 (by first | exact (bit_z bit_0).1 | exact (bit_z bit_1).1 | exact b2i_nar _) ⟨by rw [e0]; first | done | (rw [pr2, ← e2]; done) | (rw [pr2, ← e2]; rfl) | rfl, by rw [e0]; first | done | (rw [pr2, ← e2]; done) | (rw [pr2]; done) | (rw [pr2]; rfl) | rfl | exact (up_id M 709).symm⟩
  · have e0 : partR (M 715) (M 709) = (false, M 709) := if_pos (by first | exact h1 | exact Decidable.not_not.mp h1)
    refine g_iconst F (v := 0) dX9_part_11 (by decide) ?_
    exact K _ _ _ _ dX9_part_12 (by first | exact (bit_z bit_0).1 | exact (bit_z bit_1).1 | exact b2i_nar _) ⟨by rw [e0]; first | done | (rw [pr2, ← e2]; done) | (rw [pr2, ← e2]; rfl) | rfl, by rw [e0]; first | done | (rw [pr2, ← e2]; done) | (rw [pr2]; done) | (rw [pr2]; rfl) | rfl | exact (up_id M 709).symm⟩
