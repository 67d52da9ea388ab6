/-! the law's turns -/
theorem IN_pass {N U : Mm} {f2 c g q r m w : Nat → Int32} {t p n tX jX h : Nat} (hv2 : RV f2 t p n) (hh2 : Rl U 1 f2 t n) (z2 : RZ f2 t n) (ac2 : AC f2 n) (gb2 : GB f2) (H : HQ N h) (SL : SLQ N) (hF : FR (lwM N c g q r m w) h U) (htX : tX < 96) (h74X : f2 74 = nI tX) (hjX : jX ≤ 20) (h75X : f2 75 = nI jX) (LX : LAW c g q r m w f2 tX jX) : INVp U := by
  obtain rfl : tX = t := nI_inj (by omega) (by have := hv2.1; omega) (h74X.symm.trans hv2.2.1)
  obtain rfl : jX = n := nI_inj (by omega) (by have := hv2.2.2.2.2.2.1; omega) (h75X.symm.trans hv2.2.2.2.2.2.2.1)
  have HW : HQ (lwM N c g q r m w) h := lw_HQ H
  have e : ∀ x, 709 ≤ x → U x = lwM N c g q r m w x := fun x hx => FR_law HW hF hx
  refine ⟨f2, tX, p, jX, _, hv2, hh2, z2, ac2, gb2, ?_, FR_HQ HW hF, FR_SLQ HW (lw_SLQ SL) hF⟩
  rw [e 709 (by omega), e 710 (by omega), e 711 (by omega), e 712 (by omega), e 713 (by omega), e 714 (by omega)]
  exact LX
theorem i_dec (x : Int32) : x + Int32.ofInt (-1) = x - 1 := (Int32.sub_eq_add_neg x 1).symm
theorem VA_w {v : Nat} (h : v < 9) : nI v - 1 = -1 ∨ ∃ d, d < 8 ∧ nI v - 1 = nI d := by
  by_cases h0 : v = 0
  · subst h0; exact Or.inl (by decide)
  · exact Or.inr ⟨v - 1, by omega, by rw [show nI v = nI (v - 1 + 1) from congrArg nI (by omega)]; exact nI_pred _⟩

abbrev rmL_cell : Room := { frames := 0, cells := 0, slots := 0, locals := 0 }
set_option maxRecDepth 100000 in
theorem kL_cell (l : Launch) {M : Mm} {b L9 k : Nat} {xs : Nat → Int32} (hk : k < 1000) (hL9 : L9 ≤ 260) : CtX l yL_cell wsL_cell rmL_cell (fun _ => [.ref b, .int (nI k)]) M b L9 xs (fun _ v u => (∃ x, v = some (.int x)) ∧ u = M) := by
  refine CtX.of (own := RL) (by decide +kernel) rfl rfl (fun B => Nat.le_of_ble_eq_true rfl) ?_
  intro pp ee ss mm aa bb me c9 DD ca B Tl AA QQ F hX hb hbA K
  show G pp l ee rmL_cell ss mm aa bb me c9 QQ DD ca B Tl AA 2 0 0 M 0 [(0, .ref b), (1, .int (nI k))] []
  refine g_iload_n F dL_cell_0 rfl 1 rfl ?_
  refine g_aload_n F dL_cell_1 rfl 0 rfl ?_
  refine g_slen F hX hb hbA dL_cell_2 ?_
  refine g_icmpN_ge F 12 dL_cell_3 (by decide) k L9 rfl rfl (by omega) (by omega) (fun h1 => ?_) (fun h1 => ?_)
  · refine g_ldc F (v := 42997) (by decide +kernel) dL_cell_12 ?_
    refine g_iload_n F dL_cell_14 rfl 1 rfl ?_
    refine g_bipush F (v := 17) dL_cell_15 (by decide +kernel) ?_
    refine g_iadd F dL_cell_17 ?_
    refine g_imul F dL_cell_18 ?_
    refine g_ldc F (v := 2970475) (by decide +kernel) dL_cell_19 ?_
    refine g_iadd F dL_cell_21 ?_
    exact K _ _ _ _ dL_cell_22 ⟨⟨_, rfl⟩, rfl⟩
  · refine g_aload_n F dL_cell_6 rfl 0 rfl ?_
    refine g_iload_n F dL_cell_7 rfl 1 rfl ?_
    refine g_sld F hX hb hbA k rfl (by omega) (by omega) dL_cell_8 ?_
    refine g_goto F 22 dL_cell_9 (by decide) ?_
    exact K _ _ _ _ dL_cell_22 ⟨⟨_, rfl⟩, rfl⟩
section LAWB
variable {pp : Program} {l : Launch} {ee : Env} {ss : State} {mm : MethodId} {aa : Array Value} {bb : List Frame} {me : Method} {c9 : Code} {QQ : State → Prop} {DD : va_G} {ca : Nat → ClassId} {B b L9 : Nat} {xs : Nat → Int32}

set_option maxHeartbeats 8000000 in
set_option maxRecDepth 100000 in
theorem law_pass (hls : l.stackTraces = false) (F : Fx pp room_1 ss mm aa me c9 cL_law 21 wsL_law RL DD ca (AB B)) {j ct st : Nat} (hct : ct ≤ 600086) (hst : st ≤ 7301442) (kk : ∀ (M2 : Mm), INVp M2 → G pp l ee room_1 ss mm aa bb me c9 QQ DD ca B ([] : va_W) (AB B) 21 ct st M2 685 [(8, .int (nI j)), (0, .ref b), (1, .ref (B + 0)), (2, .ref (B + 709)), (3, .ref (B + 710)), (4, .ref (B + 711)), (5, .ref (B + 712)), (6, .ref (B + 713)), (7, .ref (B + 714))] []) : ∀ (dq : Nat) (M : Mm) (cs sl : Nat), dq ≤ 50 → INVp M → cs + 20 * dq + 1000 ≤ ct → sl + 120 * dq + 6000 ≤ st → G pp l ee room_1 ss mm aa bb me c9 QQ DD ca B ([] : va_W) (AB B) 21 cs sl M 179 [(12, .int (nI dq - 1)), (8, .int (nI j)), (0, .ref b), (1, .ref (B + 0)), (2, .ref (B + 709)), (3, .ref (B + 710)), (4, .ref (B + 711)), (5, .ref (B + 712)), (6, .ref (B + 713)), (7, .ref (B + 714))] [] := by
  intro dq
  induction dq with
  | zero =>
    intro M cs sl hd9 II9 hc9 hs9
    obtain ⟨f, t, p, n, h, hv, hh, z, ac, gb, hL, H, SL⟩ := id II9
    have ht := hv.1
    have hn := hv.2.2.2.2.2.1
    have h74 := hv.2.1
    have hS : SH f := z.2.1
    obtain ⟨hC, hG, hK, hQ, hE, ⟨g15, g16, g17, g18, g19⟩, hR, hM9, hN⟩ := id hL
    refine g_iload F dL_law_179 0 rfl ?_
    refine g_if_lt F 273 dL_law_181 (by decide) (fun h1 => ?_) (fun h1 => ?_)
    · refine g_mem (lwM_id _).symm ?_
      refine g_aload_n F dL_law_273 rfl 3 rfl ?_
      refine g_aload_n F dL_law_274 rfl 4 rfl ?_
      refine g_aload_n F dL_law_275 rfl 5 rfl ?_
      refine g_aload F dL_law_276 6 rfl ?_
      refine g_aload F dL_law_278 8 rfl ?_
      refine g_aload F dL_law_280 9 rfl ?_
      refine g_callS F (kL_isSo l hls hv (lw_Rl ht hn hh) z ac hL) (va_cwS 6 F.1.2.2.2.2 gL_law_L_isSo rfl rfl rfl (by decide +kernel) ⟨Nat.le_of_ble_eq_true rfl, Nat.le_of_ble_eq_true rfl⟩) rfl rfl rfl (Nat.le_of_ble_eq_true rfl) dL_law_282 ⟨by show cs + 800 ≤ 600086; omega, by show sl + 4800 ≤ 7301442; omega⟩ (g_det ?_)
      refine g_if_ne F 685 dL_law_285 (by decide) (fun h1 => ?_) (fun h1 => ?_)
      · refine g_lv (lv2 := [(8, .int (nI j)), (0, .ref b), (1, .ref (B + 0)), (2, .ref (B + 709)), (3, .ref (B + 710)), (4, .ref (B + 711)), (5, .ref (B + 712)), (6, .ref (B + 713)), (7, .ref (B + 714))]) [1, 2, 3, 4, 5, 6, 7, 8, 9] rfl ?_
        refine g_mem (lwM_id _) ?_
        refine g_widen (k := ct) (n := st) (by show cs + 800 ≤ ct; omega) (by show sl + 4800 ≤ st; omega) ?_
        exact kk _ II9
      · exact absurd h1 (by decide)
    · exact absurd (show nI 0 - 1 < 0 by decide) h1
  | succ dq ih9 =>
    intro M cs sl hd9 II9 hc9 hs9
    obtain ⟨f, t, p, n, h, hv, hh, z, ac, gb, hL, H, SL⟩ := id II9
    have ht := hv.1
    have hn := hv.2.2.2.2.2.1
    have h74 := hv.2.1
    have hS : SH f := z.2.1
    obtain ⟨hC, hG, hK, hQ, hE, ⟨g15, g16, g17, g18, g19⟩, hR, hM9, hN⟩ := id hL
    rw [nI_pred dq]
    refine g_iload F dL_law_179 0 rfl ?_
    refine g_if_lt F 273 dL_law_181 (by decide) (fun h1 => ?_) (fun h1 => ?_)
    · exact absurd h1 (nI_pos (by omega))
    · refine g_mem (lwM_id _).symm ?_
      refine g_aload F dL_law_184 6 rfl ?_
      refine g_bipush F (v := 18) dL_law_186 (by decide +kernel) ?_
      refine g_iaload (r := 711) F a711 (18) rfl (by omega) (by decide) dL_law_188 ?_
      refine g_top (y := nI t) (g18.trans h74) ?_
      refine g_istore F (lv2 := [(13, _), (12, _), (8, _), (0, _), (1, _), (2, _), (3, _), (4, _), (5, _), (6, _), (7, _)]) dL_law_189 (by decide) rfl ?_
      refine g_aload F dL_law_191 7 rfl ?_
      refine g_bipush F (v := 19) dL_law_193 (by decide +kernel) ?_
      refine g_iaload (r := 711) F a711 (19) rfl (by omega) (by decide) dL_law_195 ?_
      refine g_top (y := f 75) g19 ?_
      refine g_istore F (lv2 := [(14, _), (13, _), (12, _), (8, _), (0, _), (1, _), (2, _), (3, _), (4, _), (5, _), (6, _), (7, _)]) dL_law_196 (by decide) rfl ?_
      refine g_iload F dL_law_198 1 rfl ?_
      refine g_bipush F (v := 8) dL_law_200 (by decide +kernel) ?_
      refine g_irem F dL_law_202 (by decide) ?_
      refine g_top (pk_rem (a := t) (d := 8) (by omega) (by omega) (by omega)) ?_
      refine g_aload_n F dL_law_203 rfl 6 rfl ?_
      refine g_aload_n F dL_law_204 rfl 7 rfl ?_
      refine g_aload F dL_law_205 8 rfl ?_
      refine g_callS F (kL_reading l (f := f) (t := t) (k := t % 8) hC hS hG hQ (g18.trans h74) h74 (by omega) ht) (va_cwS 4 F.1.2.2.2.2 gL_law_L_reading rfl rfl rfl (by decide +kernel) ⟨Nat.le_of_ble_eq_true rfl, Nat.le_of_ble_eq_true rfl⟩) rfl rfl rfl (Nat.le_of_ble_eq_true rfl) dL_law_207 ⟨by show cs + 0 ≤ 600086; omega, by show sl + 0 ≤ 7301442; omega⟩ (g_det ?_)
      refine g_istore F (lv2 := [(15, _), (14, _), (13, _), (12, _), (8, _), (0, _), (1, _), (2, _), (3, _), (4, _), (5, _), (6, _), (7, _)]) dL_law_210 (by decide) rfl ?_
      refine g_aload_n F dL_law_212 rfl 7 rfl ?_
      refine g_aload_n F dL_law_213 rfl 8 rfl ?_
      refine g_aload F dL_law_214 9 rfl ?_
      refine g_aload F dL_law_216 10 rfl ?_
      refine g_aload F dL_law_218 11 rfl ?_
      refine g_aload F dL_law_220 12 rfl ?_
      refine g_callS F (kL_tick l hL hn hv z) (va_cwS 6 F.1.2.2.2.2 gL_law_L_tick rfl rfl rfl (by decide +kernel) ⟨Nat.le_of_ble_eq_true rfl, Nat.le_of_ble_eq_true rfl⟩) rfl rfl rfl (Nat.le_of_ble_eq_true rfl) dL_law_222 ⟨by show cs + 0 + 0 ≤ 600086; omega, by show sl + 0 + 0 ≤ 7301442; omega⟩ (fun v9 u9 h9 => ?_)
      obtain ⟨rfl, gX, qX, rX, mX, wX, tX, jX, eX, htX, h74X, hjX, h75X, LX⟩ := h9
      obtain rfl := eX.symm
      refine g_aload_n F dL_law_225 rfl 6 rfl ?_
      refine g_iconst F (v := 1) dL_law_226 (by decide) ?_
      refine g_callSW F (B_pass l hls hv (lw_Rl ht hn hh) z ac gb H.1 H.2.1 H.2.2) (vx_cwSW 2 F.1.2.2.2.2 gL_law_L_pass rfl rfl rfl (by decide +kernel) ⟨Nat.le_of_ble_eq_true rfl, Nat.le_of_ble_eq_true rfl⟩) rfl rfl rfl (Nat.le_of_ble_eq_true rfl) dL_law_227 ⟨by show cs + 0 + 0 + 1 ≤ 600086; omega, by show sl + 0 + 0 + 6 ≤ 7301442; omega⟩ (fun v9 u9 h9 => ?_)
      obtain ⟨rfl, ⟨t2, n2, hn2, hv2, hh2, z2, ac2, gb2⟩, hF⟩ := h9
      refine g_aload F dL_law_230 9 rfl ?_
      refine g_bipush F (v := 19) dL_law_232 (by decide +kernel) ?_
      refine g_iaload (r := 711) F a711 (19) rfl (by omega) (by decide) dL_law_234 ?_
      refine g_top (y := tkR f t p 75) ((congrFun (FR_law (lw_HQ H) hF (show 709 ≤ 711 by omega)) 19).trans LX.2.2.2.2.2.1.2.2.2.2) ?_
      refine g_iload F dL_law_235 1 rfl ?_
      refine g_isub F dL_law_237 ?_
      refine g_icmp_ne F 265 dL_law_238 (by decide) (fun h2 => ?_) (fun h2 => ?_)
      · exact absurd rfl h2
      · refine g_aload F dL_law_241 9 rfl ?_
        refine g_bipush F (v := 18) dL_law_243 (by decide +kernel) ?_
        refine g_iaload (r := 711) F a711 (18) rfl (by omega) (by decide) dL_law_245 ?_
        refine g_top (y := nI t2) ((congrFun (FR_law (lw_HQ H) hF (show 709 ≤ 711 by omega)) 18).trans (LX.2.2.2.2.2.1.2.2.2.1.trans hv2.2.1)) ?_
        refine g_if_le F 267 dL_law_246 (by decide) (fun h8 => ?_) (fun h8 => ?_)
        · refine g_iinc F (lv2 := [(12, _), (15, _), (14, _), (13, _), (8, _), (0, _), (1, _), (2, _), (3, _), (4, _), (5, _), (6, _), (7, _)]) dL_law_267 3 rfl rfl (by decide) rfl ?_
          refine g_goto F 179 dL_law_270 (by decide) ?_
          refine g_lv (lv2 := [(12, _), (8, _), (0, _), (1, _), (2, _), (3, _), (4, _), (5, _), (6, _), (7, _)]) [0, 4, 5, 6, 7, 8, 9, 10, 11, 12] rfl ?_
          refine g_widen (k := cs + 20) (n := sl + 120) (by show cs + 0 + 0 + 1 ≤ cs + 20; omega) (by show sl + 0 + 0 + 6 ≤ sl + 120; omega) ?_
          exact g_is rfl (by rw [i_dec]) (ih9 _ (cs + 20) (sl + 120) (by omega) (IN_pass hv2 hh2 z2 ac2 gb2 H SL hF htX h74X hjX h75X LX) (by omega) (by omega))
        · refine g_aload_n F dL_law_249 rfl 6 rfl ?_
          refine g_iload F dL_law_250 2 rfl ?_
          refine g_bipush F (v := 8) dL_law_252 (by decide +kernel) ?_
          refine g_irem F dL_law_254 (by decide) ?_
          refine g_top (pk_rem (a := t) (d := 8) (by omega) (by omega) (by omega)) ?_
          refine g_iload F dL_law_255 2 rfl ?_
          refine g_callSW F (A_readingOf l hls hv2 hh2 z2 (c := t % 8) (y := t) (by omega) ht) (vx_cwSW 3 F.1.2.2.2.2 gL_law_L_readingOf rfl rfl rfl (by decide +kernel) ⟨Nat.le_of_ble_eq_true rfl, Nat.le_of_ble_eq_true rfl⟩) rfl rfl rfl (Nat.le_of_ble_eq_true rfl) dL_law_257 ⟨by show cs + 0 + 0 + 1 + 2 ≤ 600086; omega, by show sl + 0 + 0 + 6 + 12 ≤ 7301442; omega⟩ (g_det ?_)
          refine g_iload F dL_law_260 0 rfl ?_
          refine g_icmp_eq F 267 dL_law_262 (by decide) (fun h7 => ?_) (fun h7 => ?_)
          · refine g_iinc F (lv2 := [(12, _), (15, _), (14, _), (13, _), (8, _), (0, _), (1, _), (2, _), (3, _), (4, _), (5, _), (6, _), (7, _)]) dL_law_267 3 rfl rfl (by decide) rfl ?_
            refine g_goto F 179 dL_law_270 (by decide) ?_
            refine g_lv (lv2 := [(12, _), (8, _), (0, _), (1, _), (2, _), (3, _), (4, _), (5, _), (6, _), (7, _)]) [0, 4, 5, 6, 7, 8, 9, 10, 11, 12] rfl ?_
            refine g_widen (k := cs + 20) (n := sl + 120) (by show cs + 0 + 0 + 1 + 2 ≤ cs + 20; omega) (by show sl + 0 + 0 + 6 + 12 ≤ sl + 120; omega) ?_
            exact g_is rfl (by rw [i_dec]) (ih9 _ (cs + 20) (sl + 120) (by omega) (IN_pass hv2 hh2 z2 ac2 gb2 H SL hF htX h74X hjX h75X LX) (by omega) (by omega))
          · exact absurd (RD_eq hv z ac hv2.2.1 h8) h7
set_option maxHeartbeats 8000000 in
set_option maxRecDepth 100000 in
theorem law_body (hls : l.stackTraces = false) (F : Fx pp room_1 ss mm aa me c9 cL_law 21 wsL_law RL DD ca (AB B)) (hX : va_X b L9 xs ss ss.heap) (hb : b < ss.heap.size) (hbA : ¬ AB B b) (hL9 : L9 ≤ 260) {M : Mm} {j cs sl : Nat} (hj : j < 60) (II9 : INVp M) (hcs : cs + 8000 ≤ 600086) (hsl : sl + 48000 ≤ 7301442) (kk : ∀ (M2 : Mm), INVp M2 → G pp l ee room_1 ss mm aa bb me c9 QQ DD ca B ([] : va_W) (AB B) 21 (cs + 8000) (sl + 48000) M2 685 [(8, .int (nI j)), (0, .ref b), (1, .ref (B + 0)), (2, .ref (B + 709)), (3, .ref (B + 710)), (4, .ref (B + 711)), (5, .ref (B + 712)), (6, .ref (B + 713)), (7, .ref (B + 714))] []) : G pp l ee room_1 ss mm aa bb me c9 QQ DD ca B ([] : va_W) (AB B) 21 cs sl M 115 [(8, .int (nI j)), (0, .ref b), (1, .ref (B + 0)), (2, .ref (B + 709)), (3, .ref (B + 710)), (4, .ref (B + 711)), (5, .ref (B + 712)), (6, .ref (B + 713)), (7, .ref (B + 714))] [] := by
  obtain ⟨f, t, p, n, h, II8⟩ := id II9
  obtain ⟨hv, hh, z, ac, gb, hL, H, SL⟩ := id II8
  have hn := hv.2.2.2.2.2.1
  have h75 := hv.2.2.2.2.2.2.1
  have g19 := hL.2.2.2.2.2.1.2.2.2.2
  refine g_aload_n F dL_law_115 rfl 1 rfl ?_
  refine g_iconst F (v := 2) dL_law_116 (by decide) ?_
  refine g_iload F dL_law_117 0 rfl ?_
  refine g_imul F dL_law_119 ?_
  refine g_top (pk_mul (2) (j)) ?_
  refine g_callX F hX hb hbA (kL_cell l (k := (2 * j)) (by omega) hL9) (va_cwS 2 F.1.2.2.2.2 gL_law_L_cell rfl rfl rfl (by decide +kernel) ⟨Nat.le_of_ble_eq_true rfl, Nat.le_of_ble_eq_true rfl⟩) rfl rfl rfl (Nat.le_of_ble_eq_true rfl) dL_law_120 ⟨by show cs + 0 ≤ 600086; omega, by show sl + 0 ≤ 7301442; omega⟩ (fun v9 u9 h9 => ?_)
  obtain ⟨⟨a2, rfl⟩, eu9⟩ := h9
  obtain rfl := eu9.symm
  refine g_istore F (lv2 := [(9, _), (8, _), (0, _), (1, _), (2, _), (3, _), (4, _), (5, _), (6, _), (7, _)]) dL_law_123 (by decide) rfl ?_
  refine g_aload_n F dL_law_125 rfl 2 rfl ?_
  refine g_iconst F (v := 2) dL_law_126 (by decide) ?_
  refine g_iload F dL_law_127 1 rfl ?_
  refine g_imul F dL_law_129 ?_
  refine g_top (pk_mul (2) (j)) ?_
  refine g_iconst F (v := 1) dL_law_130 (by decide) ?_
  refine g_iadd F dL_law_131 ?_
  refine g_top (nI_add ((2 * j)) (1)) ?_
  refine g_callX F hX hb hbA (kL_cell l (k := ((2 * j) + 1)) (by omega) hL9) (va_cwS 2 F.1.2.2.2.2 gL_law_L_cell rfl rfl rfl (by decide +kernel) ⟨Nat.le_of_ble_eq_true rfl, Nat.le_of_ble_eq_true rfl⟩) rfl rfl rfl (Nat.le_of_ble_eq_true rfl) dL_law_132 ⟨by show cs + 0 + 0 ≤ 600086; omega, by show sl + 0 + 0 ≤ 7301442; omega⟩ (fun v9 u9 h9 => ?_)
  obtain ⟨⟨b2, rfl⟩, eu9⟩ := h9
  obtain rfl := eu9.symm
  refine g_istore F (lv2 := [(10, _), (9, _), (8, _), (0, _), (1, _), (2, _), (3, _), (4, _), (5, _), (6, _), (7, _)]) dL_law_135 (by decide) rfl ?_
  refine g_iload F dL_law_137 1 rfl ?_
  refine g_bipush F (v := 24) dL_law_139 (by decide +kernel) ?_
  refine g_callS F (kL_low l _ (24) (by omega) (by omega)) (va_cwS 2 F.1.2.2.2.2 gL_law_L_low rfl rfl rfl (by decide +kernel) ⟨Nat.le_of_ble_eq_true rfl, Nat.le_of_ble_eq_true rfl⟩) rfl rfl rfl (Nat.le_of_ble_eq_true rfl) dL_law_141 ⟨by show cs + 0 + 0 + 0 ≤ 600086; omega, by show sl + 0 + 0 + 0 ≤ 7301442; omega⟩ (fun v9 u9 h9 => ?_)
  obtain ⟨⟨v1, hv1, rfl⟩, eu9⟩ := h9
  obtain rfl := eu9.symm
  refine g_istore F (lv2 := [(11, _), (10, _), (9, _), (8, _), (0, _), (1, _), (2, _), (3, _), (4, _), (5, _), (6, _), (7, _)]) dL_law_144 (by decide) rfl ?_
  refine g_iload F dL_law_146 0 rfl ?_
  refine g_bipush F (v := 11) dL_law_148 (by decide +kernel) ?_
  refine g_icmpN_le F 290 dL_law_150 (by decide) (v1) (11) rfl rfl (by omega) (by omega) (fun h1 => ?_) (fun h1 => ?_)
  · refine g_iload F dL_law_290 0 rfl ?_
    refine g_iconst F (v := 3) dL_law_292 (by decide) ?_
    refine g_icmpN_ge F 300 dL_law_293 (by decide) (v1) (3) rfl rfl (by omega) (by omega) (fun h2 => ?_) (fun h2 => ?_)
    · refine g_iload F dL_law_300 0 rfl ?_
      refine g_iconst F (v := 5) dL_law_302 (by decide) ?_
      refine g_icmpN_ge F 310 dL_law_303 (by decide) (v1) (5) rfl rfl (by omega) (by omega) (fun h3 => ?_) (fun h3 => ?_)
      · refine g_iload F dL_law_310 0 rfl ?_
        refine g_bipush F (v := 8) dL_law_312 (by decide +kernel) ?_
        refine g_icmpN_ge F 321 dL_law_314 (by decide) (v1) (8) rfl rfl (by omega) (by omega) (fun h4 => ?_) (fun h4 => ?_)
        · refine g_iload F dL_law_321 0 rfl ?_
          refine g_bipush F (v := 8) dL_law_323 (by decide +kernel) ?_
          refine g_icmpN_ne F 332 dL_law_325 (by decide) (v1) (8) rfl rfl (by omega) (by omega) (fun h5 => ?_) (fun h5 => ?_)
          · refine g_iload F dL_law_332 0 rfl ?_
            refine g_bipush F (v := 9) dL_law_334 (by decide +kernel) ?_
            refine g_icmpN_ne F 343 dL_law_336 (by decide) (v1) (9) rfl rfl (by omega) (by omega) (fun h6 => ?_) (fun h6 => ?_)
            · refine g_iconst F (v := 5) dL_law_343 (by decide) ?_
              refine g_istore F (lv2 := [(11, _), (10, _), (9, _), (8, _), (0, _), (1, _), (2, _), (3, _), (4, _), (5, _), (6, _), (7, _)]) dL_law_344 (by decide) rfl ?_
              refine g_iload F dL_law_346 0 rfl ?_
              refine g_if_ne F 361 dL_law_348 (by decide) (fun h7 => ?_) (fun h7 => ?_)
              · refine g_iload F dL_law_361 0 rfl ?_
                refine g_iconst F (v := 1) dL_law_363 (by decide) ?_
                refine g_icmpN_ne F 377 dL_law_364 (by decide) (5) (1) rfl rfl (by omega) (by omega) (fun h8 => ?_) (fun h8 => ?_)
                · refine g_iload F dL_law_377 0 rfl ?_
                  refine g_iconst F (v := 4) dL_law_379 (by decide) ?_
                  refine g_icmpN_ge F 392 dL_law_380 (by decide) (5) (4) rfl rfl (by omega) (by omega) (fun h9 => ?_) (fun h9 => ?_)
                  · refine g_iload F dL_law_392 0 rfl ?_
                    refine g_iconst F (v := 4) dL_law_394 (by decide) ?_
                    refine g_icmpN_ne F 409 dL_law_395 (by decide) (5) (4) rfl rfl (by omega) (by omega) (fun h10 => ?_) (fun h10 => ?_)
                    · refine g_iload F dL_law_409 1 rfl ?_
                      refine g_aload F dL_law_411 8 rfl ?_
                      refine g_bipush F (v := 19) dL_law_413 (by decide +kernel) ?_
                      refine g_iaload (r := 711) F a711 (19) rfl (by omega) (by decide) dL_law_415 ?_
                      refine g_top (y := nI n) (g19.trans h75) ?_
                      refine g_iconst F (v := 1) dL_law_416 (by decide) ?_
                      refine g_iadd F dL_law_417 ?_
                      refine g_top (nI_add (n) (1)) ?_
                      refine g_callS F (kL_low l _ ((n + 1)) (by omega) (by omega)) (va_cwS 2 F.1.2.2.2.2 gL_law_L_low rfl rfl rfl (by decide +kernel) ⟨Nat.le_of_ble_eq_true rfl, Nat.le_of_ble_eq_true rfl⟩) rfl rfl rfl (Nat.le_of_ble_eq_true rfl) dL_law_418 ⟨by show cs + 0 + 0 + 0 + 0 ≤ 600086; omega, by show sl + 0 + 0 + 0 + 0 ≤ 7301442; omega⟩ (fun v9 u9 h9 => ?_)
                      obtain ⟨⟨v2, hv2, rfl⟩, eu9⟩ := h9
                      obtain rfl := eu9.symm
                      refine g_istore F (lv2 := [(12, _), (11, _), (10, _), (9, _), (8, _), (0, _), (1, _), (2, _), (3, _), (4, _), (5, _), (6, _), (7, _)]) dL_law_421 (by decide) rfl ?_
                      refine g_iload F dL_law_423 1 rfl ?_
                      refine g_if_ne F 440 dL_law_425 (by decide) (fun h11 => ?_) (fun h11 => ?_)
                      · refine g_iload F dL_law_440 1 rfl ?_
                        refine g_iconst F (v := 1) dL_law_442 (by decide) ?_
                        refine g_icmpN_ne F 457 dL_law_443 (by decide) (5) (1) rfl rfl (by omega) (by omega) (fun h12 => ?_) (fun h12 => ?_)
                        · refine g_iload F dL_law_457 1 rfl ?_
                          refine g_iconst F (v := 2) dL_law_459 (by decide) ?_
                          refine g_icmpN_ne F 477 dL_law_460 (by decide) (5) (2) rfl rfl (by omega) (by omega) (fun h13 => ?_) (fun h13 => ?_)
                          · refine g_iload F dL_law_477 1 rfl ?_
                            refine g_iconst F (v := 3) dL_law_479 (by decide) ?_
                            refine g_icmpN_ne F 496 dL_law_480 (by decide) (5) (3) rfl rfl (by omega) (by omega) (fun h14 => ?_) (fun h14 => ?_)
                            · refine g_iconst F (v := 1) dL_law_496 (by decide) ?_
                              refine g_iload F dL_law_497 2 rfl ?_
                              refine g_iconst F (v := 5) dL_law_499 (by decide) ?_
                              refine g_ishr F dL_law_500 ?_
                              refine g_iload F dL_law_501 2 rfl ?_
                              refine g_bipush F (v := 12) dL_law_503 (by decide +kernel) ?_
                              refine g_ishr F dL_law_505 ?_
                              refine g_iconst F (v := 2) dL_law_506 (by decide) ?_
                              refine g_callS F (kL_low l _ (2) (by omega) (by omega)) (va_cwS 2 F.1.2.2.2.2 gL_law_L_low rfl rfl rfl (by decide +kernel) ⟨Nat.le_of_ble_eq_true rfl, Nat.le_of_ble_eq_true rfl⟩) rfl rfl rfl (Nat.le_of_ble_eq_true rfl) dL_law_507 ⟨by show cs + 0 + 0 + 0 + 0 + 0 ≤ 600086; omega, by show sl + 0 + 0 + 0 + 0 + 0 ≤ 7301442; omega⟩ (fun v9 u9 h9 => ?_)
                              obtain ⟨⟨v3, hv3, rfl⟩, eu9⟩ := h9
                              obtain rfl := eu9.symm
                              refine g_if_ne F 518 dL_law_510 (by decide) (fun h15 => ?_) (fun h15 => ?_)
                              · refine g_iconst F (v := 3) dL_law_518 (by decide) ?_
                                refine g_callS F (kL_low l _ (3) (by omega) (by omega)) (va_cwS 2 F.1.2.2.2.2 gL_law_L_low rfl rfl rfl (by decide +kernel) ⟨Nat.le_of_ble_eq_true rfl, Nat.le_of_ble_eq_true rfl⟩) rfl rfl rfl (Nat.le_of_ble_eq_true rfl) dL_law_519 ⟨by show cs + 0 + 0 + 0 + 0 + 0 + 0 ≤ 600086; omega, by show sl + 0 + 0 + 0 + 0 + 0 + 0 ≤ 7301442; omega⟩ (fun v9 u9 h9 => ?_)
                                obtain ⟨⟨v4, hv4, rfl⟩, eu9⟩ := h9
                                obtain rfl := eu9.symm
                                refine g_iadd F dL_law_522 ?_
                                refine g_top (nI_add (1) (v4)) ?_
                                refine g_istore F (lv2 := [(13, _), (12, _), (11, _), (10, _), (9, _), (8, _), (0, _), (1, _), (2, _), (3, _), (4, _), (5, _), (6, _), (7, _)]) dL_law_523 (by decide) rfl ?_
                                refine g_iload F dL_law_525 3 rfl ?_
                                refine g_bipush F (v := 9) dL_law_527 (by decide +kernel) ?_
                                refine g_ishr F dL_law_529 ?_
                                refine g_sipush F (v := 200) dL_law_530 (by decide +kernel) ?_
                                refine g_callS F (kL_low l _ (200) (by omega) (by omega)) (va_cwS 2 F.1.2.2.2.2 gL_law_L_low rfl rfl rfl (by decide +kernel) ⟨Nat.le_of_ble_eq_true rfl, Nat.le_of_ble_eq_true rfl⟩) rfl rfl rfl (Nat.le_of_ble_eq_true rfl) dL_law_533 ⟨by show cs + 0 + 0 + 0 + 0 + 0 + 0 + 0 ≤ 600086; omega, by show sl + 0 + 0 + 0 + 0 + 0 + 0 + 0 ≤ 7301442; omega⟩ (fun v9 u9 h9 => ?_)
                                obtain ⟨⟨v5, hv5, rfl⟩, eu9⟩ := h9
                                obtain rfl := eu9.symm
                                refine g_istore F (lv2 := [(14, _), (13, _), (12, _), (11, _), (10, _), (9, _), (8, _), (0, _), (1, _), (2, _), (3, _), (4, _), (5, _), (6, _), (7, _)]) dL_law_536 (by decide) rfl ?_
                                refine g_lv (lv2 := [(14, _), (13, _), (12, _), (11, _), (10, _), (9, _), (8, _), (0, _), (1, _), (2, _), (3, _), (4, _), (5, _), (6, _), (7, _)]) [0, 1, 2, 3, 4, 5, 6, 7, 8, 9, 10, 11, 12, 13, 14] rfl ?_
                                refine g_widen (k := cs) (n := sl) (by show cs + 0 + 0 + 0 + 0 + 0 + 0 + 0 ≤ cs; omega) (by show sl + 0 + 0 + 0 + 0 + 0 + 0 + 0 ≤ sl; omega) ?_
                                exact law_tail hls F (κ := 5) (zz := v5) II8 (Or.inr (Or.inr (Or.inr (Or.inr (Or.inr (⟨rfl, v2, by omega, rfl⟩)))))) (by omega) (by omega) (by omega) kk
                              · refine g_bipush F (v := 8) dL_law_513 (by decide +kernel) ?_
                                refine g_goto F 519 dL_law_515 (by decide) ?_
                                refine g_callS F (kL_low l _ (8) (by omega) (by omega)) (va_cwS 2 F.1.2.2.2.2 gL_law_L_low rfl rfl rfl (by decide +kernel) ⟨Nat.le_of_ble_eq_true rfl, Nat.le_of_ble_eq_true rfl⟩) rfl rfl rfl (Nat.le_of_ble_eq_true rfl) dL_law_519 ⟨by show cs + 0 + 0 + 0 + 0 + 0 + 0 ≤ 600086; omega, by show sl + 0 + 0 + 0 + 0 + 0 + 0 ≤ 7301442; omega⟩ (fun v9 u9 h9 => ?_)
                                obtain ⟨⟨v6, hv6, rfl⟩, eu9⟩ := h9
                                obtain rfl := eu9.symm
                                refine g_iadd F dL_law_522 ?_
                                refine g_top (nI_add (1) (v6)) ?_
                                refine g_istore F (lv2 := [(13, _), (12, _), (11, _), (10, _), (9, _), (8, _), (0, _), (1, _), (2, _), (3, _), (4, _), (5, _), (6, _), (7, _)]) dL_law_523 (by decide) rfl ?_
                                refine g_iload F dL_law_525 3 rfl ?_
                                refine g_bipush F (v := 9) dL_law_527 (by decide +kernel) ?_
                                refine g_ishr F dL_law_529 ?_
                                refine g_sipush F (v := 200) dL_law_530 (by decide +kernel) ?_
                                refine g_callS F (kL_low l _ (200) (by omega) (by omega)) (va_cwS 2 F.1.2.2.2.2 gL_law_L_low rfl rfl rfl (by decide +kernel) ⟨Nat.le_of_ble_eq_true rfl, Nat.le_of_ble_eq_true rfl⟩) rfl rfl rfl (Nat.le_of_ble_eq_true rfl) dL_law_533 ⟨by show cs + 0 + 0 + 0 + 0 + 0 + 0 + 0 ≤ 600086; omega, by show sl + 0 + 0 + 0 + 0 + 0 + 0 + 0 ≤ 7301442; omega⟩ (fun v9 u9 h9 => ?_)
                                obtain ⟨⟨v7, hv7, rfl⟩, eu9⟩ := h9
                                obtain rfl := eu9.symm
                                refine g_istore F (lv2 := [(14, _), (13, _), (12, _), (11, _), (10, _), (9, _), (8, _), (0, _), (1, _), (2, _), (3, _), (4, _), (5, _), (6, _), (7, _)]) dL_law_536 (by decide) rfl ?_
                                refine g_lv (lv2 := [(14, _), (13, _), (12, _), (11, _), (10, _), (9, _), (8, _), (0, _), (1, _), (2, _), (3, _), (4, _), (5, _), (6, _), (7, _)]) [0, 1, 2, 3, 4, 5, 6, 7, 8, 9, 10, 11, 12, 13, 14] rfl ?_
                                refine g_widen (k := cs) (n := sl) (by show cs + 0 + 0 + 0 + 0 + 0 + 0 + 0 ≤ cs; omega) (by show sl + 0 + 0 + 0 + 0 + 0 + 0 + 0 ≤ sl; omega) ?_
                                exact law_tail hls F (κ := 5) (zz := v7) II8 (Or.inr (Or.inr (Or.inr (Or.inr (Or.inr (⟨rfl, v2, by omega, rfl⟩)))))) (by omega) (by omega) (by omega) kk
                            · exact absurd h14 (by omega)
                          · exact absurd h13 (by omega)
                        · exact absurd h12 (by omega)
                      · exact absurd h11 (by decide)
                    · exact absurd h10 (by omega)
                  · exact absurd h9 (by omega)
                · exact absurd h8 (by omega)
              · exact absurd h7 (by decide)
            · refine g_iconst F (v := 4) dL_law_339 (by decide) ?_
              refine g_goto F 344 dL_law_340 (by decide) ?_
              refine g_istore F (lv2 := [(11, _), (10, _), (9, _), (8, _), (0, _), (1, _), (2, _), (3, _), (4, _), (5, _), (6, _), (7, _)]) dL_law_344 (by decide) rfl ?_
              refine g_iload F dL_law_346 0 rfl ?_
              refine g_if_ne F 361 dL_law_348 (by decide) (fun h16 => ?_) (fun h16 => ?_)
              · refine g_iload F dL_law_361 0 rfl ?_
                refine g_iconst F (v := 1) dL_law_363 (by decide) ?_
                refine g_icmpN_ne F 377 dL_law_364 (by decide) (4) (1) rfl rfl (by omega) (by omega) (fun h17 => ?_) (fun h17 => ?_)
                · refine g_iload F dL_law_377 0 rfl ?_
                  refine g_iconst F (v := 4) dL_law_379 (by decide) ?_
                  refine g_icmpN_ge F 392 dL_law_380 (by decide) (4) (4) rfl rfl (by omega) (by omega) (fun h18 => ?_) (fun h18 => ?_)
                  · refine g_iload F dL_law_392 0 rfl ?_
                    refine g_iconst F (v := 4) dL_law_394 (by decide) ?_
                    refine g_icmpN_ne F 409 dL_law_395 (by decide) (4) (4) rfl rfl (by omega) (by omega) (fun h19 => ?_) (fun h19 => ?_)
                    · exact absurd h19 (by omega)
                    · refine g_iconst F (v := 1) dL_law_398 (by decide) ?_
                      refine g_iload F dL_law_399 1 rfl ?_
                      refine g_iconst F (v := 5) dL_law_401 (by decide) ?_
                      refine g_callS F (kL_low l _ (5) (by omega) (by omega)) (va_cwS 2 F.1.2.2.2.2 gL_law_L_low rfl rfl rfl (by decide +kernel) ⟨Nat.le_of_ble_eq_true rfl, Nat.le_of_ble_eq_true rfl⟩) rfl rfl rfl (Nat.le_of_ble_eq_true rfl) dL_law_402 ⟨by show cs + 0 + 0 + 0 + 0 ≤ 600086; omega, by show sl + 0 + 0 + 0 + 0 ≤ 7301442; omega⟩ (fun v9 u9 h9 => ?_)
                      obtain ⟨⟨v8, hv8, rfl⟩, eu9⟩ := h9
                      obtain rfl := eu9.symm
                      refine g_iadd F dL_law_405 ?_
                      refine g_top (nI_add (1) (v8)) ?_
                      refine g_goto F 421 dL_law_406 (by decide) ?_
                      refine g_istore F (lv2 := [(12, _), (11, _), (10, _), (9, _), (8, _), (0, _), (1, _), (2, _), (3, _), (4, _), (5, _), (6, _), (7, _)]) dL_law_421 (by decide) rfl ?_
                      refine g_iload F dL_law_423 1 rfl ?_
                      refine g_if_ne F 440 dL_law_425 (by decide) (fun h20 => ?_) (fun h20 => ?_)
                      · refine g_iload F dL_law_440 1 rfl ?_
                        refine g_iconst F (v := 1) dL_law_442 (by decide) ?_
                        refine g_icmpN_ne F 457 dL_law_443 (by decide) (4) (1) rfl rfl (by omega) (by omega) (fun h21 => ?_) (fun h21 => ?_)
                        · refine g_iload F dL_law_457 1 rfl ?_
                          refine g_iconst F (v := 2) dL_law_459 (by decide) ?_
                          refine g_icmpN_ne F 477 dL_law_460 (by decide) (4) (2) rfl rfl (by omega) (by omega) (fun h22 => ?_) (fun h22 => ?_)
                          · refine g_iload F dL_law_477 1 rfl ?_
                            refine g_iconst F (v := 3) dL_law_479 (by decide) ?_
                            refine g_icmpN_ne F 496 dL_law_480 (by decide) (4) (3) rfl rfl (by omega) (by omega) (fun h23 => ?_) (fun h23 => ?_)
                            · refine g_iconst F (v := 1) dL_law_496 (by decide) ?_
                              refine g_iload F dL_law_497 2 rfl ?_
                              refine g_iconst F (v := 5) dL_law_499 (by decide) ?_
                              refine g_ishr F dL_law_500 ?_
                              refine g_iload F dL_law_501 2 rfl ?_
                              refine g_bipush F (v := 12) dL_law_503 (by decide +kernel) ?_
                              refine g_ishr F dL_law_505 ?_
                              refine g_iconst F (v := 2) dL_law_506 (by decide) ?_
                              refine g_callS F (kL_low l _ (2) (by omega) (by omega)) (va_cwS 2 F.1.2.2.2.2 gL_law_L_low rfl rfl rfl (by decide +kernel) ⟨Nat.le_of_ble_eq_true rfl, Nat.le_of_ble_eq_true rfl⟩) rfl rfl rfl (Nat.le_of_ble_eq_true rfl) dL_law_507 ⟨by show cs + 0 + 0 + 0 + 0 + 0 ≤ 600086; omega, by show sl + 0 + 0 + 0 + 0 + 0 ≤ 7301442; omega⟩ (fun v9 u9 h9 => ?_)
                              obtain ⟨⟨v9, hv9, rfl⟩, eu9⟩ := h9
                              obtain rfl := eu9.symm
                              refine g_if_ne F 518 dL_law_510 (by decide) (fun h24 => ?_) (fun h24 => ?_)
                              · refine g_iconst F (v := 3) dL_law_518 (by decide) ?_
                                refine g_callS F (kL_low l _ (3) (by omega) (by omega)) (va_cwS 2 F.1.2.2.2.2 gL_law_L_low rfl rfl rfl (by decide +kernel) ⟨Nat.le_of_ble_eq_true rfl, Nat.le_of_ble_eq_true rfl⟩) rfl rfl rfl (Nat.le_of_ble_eq_true rfl) dL_law_519 ⟨by show cs + 0 + 0 + 0 + 0 + 0 + 0 ≤ 600086; omega, by show sl + 0 + 0 + 0 + 0 + 0 + 0 ≤ 7301442; omega⟩ (fun v9 u9 h9 => ?_)
                                obtain ⟨⟨v10, hv10, rfl⟩, eu9⟩ := h9
                                obtain rfl := eu9.symm
                                refine g_iadd F dL_law_522 ?_
                                refine g_top (nI_add (1) (v10)) ?_
                                refine g_istore F (lv2 := [(13, _), (12, _), (11, _), (10, _), (9, _), (8, _), (0, _), (1, _), (2, _), (3, _), (4, _), (5, _), (6, _), (7, _)]) dL_law_523 (by decide) rfl ?_
                                refine g_iload F dL_law_525 3 rfl ?_
                                refine g_bipush F (v := 9) dL_law_527 (by decide +kernel) ?_
                                refine g_ishr F dL_law_529 ?_
                                refine g_sipush F (v := 200) dL_law_530 (by decide +kernel) ?_
                                refine g_callS F (kL_low l _ (200) (by omega) (by omega)) (va_cwS 2 F.1.2.2.2.2 gL_law_L_low rfl rfl rfl (by decide +kernel) ⟨Nat.le_of_ble_eq_true rfl, Nat.le_of_ble_eq_true rfl⟩) rfl rfl rfl (Nat.le_of_ble_eq_true rfl) dL_law_533 ⟨by show cs + 0 + 0 + 0 + 0 + 0 + 0 + 0 ≤ 600086; omega, by show sl + 0 + 0 + 0 + 0 + 0 + 0 + 0 ≤ 7301442; omega⟩ (fun v9 u9 h9 => ?_)
                                obtain ⟨⟨v11, hv11, rfl⟩, eu9⟩ := h9
                                obtain rfl := eu9.symm
                                refine g_istore F (lv2 := [(14, _), (13, _), (12, _), (11, _), (10, _), (9, _), (8, _), (0, _), (1, _), (2, _), (3, _), (4, _), (5, _), (6, _), (7, _)]) dL_law_536 (by decide) rfl ?_
                                refine g_lv (lv2 := [(14, _), (13, _), (12, _), (11, _), (10, _), (9, _), (8, _), (0, _), (1, _), (2, _), (3, _), (4, _), (5, _), (6, _), (7, _)]) [0, 1, 2, 3, 4, 5, 6, 7, 8, 9, 10, 11, 12, 13, 14] rfl ?_
                                refine g_widen (k := cs) (n := sl) (by show cs + 0 + 0 + 0 + 0 + 0 + 0 + 0 ≤ cs; omega) (by show sl + 0 + 0 + 0 + 0 + 0 + 0 + 0 ≤ sl; omega) ?_
                                exact law_tail hls F (κ := 4) (zz := v11) II8 (Or.inr (Or.inr (Or.inr (Or.inr (Or.inl ⟨rfl, ⟨(1 + v8), by omega, by omega, rfl⟩, (1 + v10), by omega, by omega, rfl⟩))))) (by omega) (by omega) (by omega) kk
                              · refine g_bipush F (v := 8) dL_law_513 (by decide +kernel) ?_
                                refine g_goto F 519 dL_law_515 (by decide) ?_
                                refine g_callS F (kL_low l _ (8) (by omega) (by omega)) (va_cwS 2 F.1.2.2.2.2 gL_law_L_low rfl rfl rfl (by decide +kernel) ⟨Nat.le_of_ble_eq_true rfl, Nat.le_of_ble_eq_true rfl⟩) rfl rfl rfl (Nat.le_of_ble_eq_true rfl) dL_law_519 ⟨by show cs + 0 + 0 + 0 + 0 + 0 + 0 ≤ 600086; omega, by show sl + 0 + 0 + 0 + 0 + 0 + 0 ≤ 7301442; omega⟩ (fun v9 u9 h9 => ?_)
                                obtain ⟨⟨v12, hv12, rfl⟩, eu9⟩ := h9
                                obtain rfl := eu9.symm
                                refine g_iadd F dL_law_522 ?_
                                refine g_top (nI_add (1) (v12)) ?_
                                refine g_istore F (lv2 := [(13, _), (12, _), (11, _), (10, _), (9, _), (8, _), (0, _), (1, _), (2, _), (3, _), (4, _), (5, _), (6, _), (7, _)]) dL_law_523 (by decide) rfl ?_
                                refine g_iload F dL_law_525 3 rfl ?_
                                refine g_bipush F (v := 9) dL_law_527 (by decide +kernel) ?_
                                refine g_ishr F dL_law_529 ?_
                                refine g_sipush F (v := 200) dL_law_530 (by decide +kernel) ?_
                                refine g_callS F (kL_low l _ (200) (by omega) (by omega)) (va_cwS 2 F.1.2.2.2.2 gL_law_L_low rfl rfl rfl (by decide +kernel) ⟨Nat.le_of_ble_eq_true rfl, Nat.le_of_ble_eq_true rfl⟩) rfl rfl rfl (Nat.le_of_ble_eq_true rfl) dL_law_533 ⟨by show cs + 0 + 0 + 0 + 0 + 0 + 0 + 0 ≤ 600086; omega, by show sl + 0 + 0 + 0 + 0 + 0 + 0 + 0 ≤ 7301442; omega⟩ (fun v9 u9 h9 => ?_)
                                obtain ⟨⟨v13, hv13, rfl⟩, eu9⟩ := h9
                                obtain rfl := eu9.symm
                                refine g_istore F (lv2 := [(14, _), (13, _), (12, _), (11, _), (10, _), (9, _), (8, _), (0, _), (1, _), (2, _), (3, _), (4, _), (5, _), (6, _), (7, _)]) dL_law_536 (by decide) rfl ?_
                                refine g_lv (lv2 := [(14, _), (13, _), (12, _), (11, _), (10, _), (9, _), (8, _), (0, _), (1, _), (2, _), (3, _), (4, _), (5, _), (6, _), (7, _)]) [0, 1, 2, 3, 4, 5, 6, 7, 8, 9, 10, 11, 12, 13, 14] rfl ?_
                                refine g_widen (k := cs) (n := sl) (by show cs + 0 + 0 + 0 + 0 + 0 + 0 + 0 ≤ cs; omega) (by show sl + 0 + 0 + 0 + 0 + 0 + 0 + 0 ≤ sl; omega) ?_
                                exact law_tail hls F (κ := 4) (zz := v13) II8 (Or.inr (Or.inr (Or.inr (Or.inr (Or.inl ⟨rfl, ⟨(1 + v8), by omega, by omega, rfl⟩, (1 + v12), by omega, by omega, rfl⟩))))) (by omega) (by omega) (by omega) kk
                            · exact absurd h23 (by omega)
                          · exact absurd h22 (by omega)
                        · exact absurd h21 (by omega)
                      · exact absurd h20 (by decide)
                  · exact absurd h18 (by omega)
                · exact absurd h17 (by omega)
              · exact absurd h16 (by decide)
          · refine g_iconst F (v := 3) dL_law_328 (by decide) ?_
            refine g_goto F 344 dL_law_329 (by decide) ?_
            refine g_istore F (lv2 := [(11, _), (10, _), (9, _), (8, _), (0, _), (1, _), (2, _), (3, _), (4, _), (5, _), (6, _), (7, _)]) dL_law_344 (by decide) rfl ?_
            refine g_iload F dL_law_346 0 rfl ?_
            refine g_if_ne F 361 dL_law_348 (by decide) (fun h25 => ?_) (fun h25 => ?_)
            · refine g_iload F dL_law_361 0 rfl ?_
              refine g_iconst F (v := 1) dL_law_363 (by decide) ?_
              refine g_icmpN_ne F 377 dL_law_364 (by decide) (3) (1) rfl rfl (by omega) (by omega) (fun h26 => ?_) (fun h26 => ?_)
              · refine g_iload F dL_law_377 0 rfl ?_
                refine g_iconst F (v := 4) dL_law_379 (by decide) ?_
                refine g_icmpN_ge F 392 dL_law_380 (by decide) (3) (4) rfl rfl (by omega) (by omega) (fun h27 => ?_) (fun h27 => ?_)
                · exact absurd h27 (by omega)
                · refine g_iload F dL_law_383 1 rfl ?_
                  refine g_iconst F (v := 3) dL_law_385 (by decide) ?_
                  refine g_callS F (kL_low l _ (3) (by omega) (by omega)) (va_cwS 2 F.1.2.2.2.2 gL_law_L_low rfl rfl rfl (by decide +kernel) ⟨Nat.le_of_ble_eq_true rfl, Nat.le_of_ble_eq_true rfl⟩) rfl rfl rfl (Nat.le_of_ble_eq_true rfl) dL_law_386 ⟨by show cs + 0 + 0 + 0 + 0 ≤ 600086; omega, by show sl + 0 + 0 + 0 + 0 ≤ 7301442; omega⟩ (fun v9 u9 h9 => ?_)
                  obtain ⟨⟨v14, hv14, rfl⟩, eu9⟩ := h9
                  obtain rfl := eu9.symm
                  refine g_goto F 421 dL_law_389 (by decide) ?_
                  refine g_istore F (lv2 := [(12, _), (11, _), (10, _), (9, _), (8, _), (0, _), (1, _), (2, _), (3, _), (4, _), (5, _), (6, _), (7, _)]) dL_law_421 (by decide) rfl ?_
                  refine g_iload F dL_law_423 1 rfl ?_
                  refine g_if_ne F 440 dL_law_425 (by decide) (fun h28 => ?_) (fun h28 => ?_)
                  · refine g_iload F dL_law_440 1 rfl ?_
                    refine g_iconst F (v := 1) dL_law_442 (by decide) ?_
                    refine g_icmpN_ne F 457 dL_law_443 (by decide) (3) (1) rfl rfl (by omega) (by omega) (fun h29 => ?_) (fun h29 => ?_)
                    · refine g_iload F dL_law_457 1 rfl ?_
                      refine g_iconst F (v := 2) dL_law_459 (by decide) ?_
                      refine g_icmpN_ne F 477 dL_law_460 (by decide) (3) (2) rfl rfl (by omega) (by omega) (fun h30 => ?_) (fun h30 => ?_)
                      · refine g_iload F dL_law_477 1 rfl ?_
                        refine g_iconst F (v := 3) dL_law_479 (by decide) ?_
                        refine g_icmpN_ne F 496 dL_law_480 (by decide) (3) (3) rfl rfl (by omega) (by omega) (fun h31 => ?_) (fun h31 => ?_)
                        · exact absurd h31 (by omega)
                        · refine g_iload F dL_law_483 2 rfl ?_
                          refine g_iconst F (v := 5) dL_law_485 (by decide) ?_
                          refine g_ishr F dL_law_486 ?_
                          refine g_iconst F (v := 3) dL_law_487 (by decide) ?_
                          refine g_callS F (kL_low l _ (3) (by omega) (by omega)) (va_cwS 2 F.1.2.2.2.2 gL_law_L_low rfl rfl rfl (by decide +kernel) ⟨Nat.le_of_ble_eq_true rfl, Nat.le_of_ble_eq_true rfl⟩) rfl rfl rfl (Nat.le_of_ble_eq_true rfl) dL_law_488 ⟨by show cs + 0 + 0 + 0 + 0 + 0 ≤ 600086; omega, by show sl + 0 + 0 + 0 + 0 + 0 ≤ 7301442; omega⟩ (fun v9 u9 h9 => ?_)
                          obtain ⟨⟨v15, hv15, rfl⟩, eu9⟩ := h9
                          obtain rfl := eu9.symm
                          refine g_iconst F (v := 1) dL_law_491 (by decide) ?_
                          refine g_isub F dL_law_492 ?_
                          refine g_goto F 523 dL_law_493 (by decide) ?_
                          refine g_istore F (lv2 := [(13, _), (12, _), (11, _), (10, _), (9, _), (8, _), (0, _), (1, _), (2, _), (3, _), (4, _), (5, _), (6, _), (7, _)]) dL_law_523 (by decide) rfl ?_
                          refine g_iload F dL_law_525 3 rfl ?_
                          refine g_bipush F (v := 9) dL_law_527 (by decide +kernel) ?_
                          refine g_ishr F dL_law_529 ?_
                          refine g_sipush F (v := 200) dL_law_530 (by decide +kernel) ?_
                          refine g_callS F (kL_low l _ (200) (by omega) (by omega)) (va_cwS 2 F.1.2.2.2.2 gL_law_L_low rfl rfl rfl (by decide +kernel) ⟨Nat.le_of_ble_eq_true rfl, Nat.le_of_ble_eq_true rfl⟩) rfl rfl rfl (Nat.le_of_ble_eq_true rfl) dL_law_533 ⟨by show cs + 0 + 0 + 0 + 0 + 0 + 0 ≤ 600086; omega, by show sl + 0 + 0 + 0 + 0 + 0 + 0 ≤ 7301442; omega⟩ (fun v9 u9 h9 => ?_)
                          obtain ⟨⟨v16, hv16, rfl⟩, eu9⟩ := h9
                          obtain rfl := eu9.symm
                          refine g_istore F (lv2 := [(14, _), (13, _), (12, _), (11, _), (10, _), (9, _), (8, _), (0, _), (1, _), (2, _), (3, _), (4, _), (5, _), (6, _), (7, _)]) dL_law_536 (by decide) rfl ?_
                          refine g_lv (lv2 := [(14, _), (13, _), (12, _), (11, _), (10, _), (9, _), (8, _), (0, _), (1, _), (2, _), (3, _), (4, _), (5, _), (6, _), (7, _)]) [0, 1, 2, 3, 4, 5, 6, 7, 8, 9, 10, 11, 12, 13, 14] rfl ?_
                          refine g_widen (k := cs) (n := sl) (by show cs + 0 + 0 + 0 + 0 + 0 + 0 ≤ cs; omega) (by show sl + 0 + 0 + 0 + 0 + 0 + 0 ≤ sl; omega) ?_
                          exact law_tail hls F (κ := 3) (zz := v16) II8 (Or.inr (Or.inr (Or.inr (Or.inl ⟨rfl, ⟨v14, by omega, rfl⟩, v15, by omega, rfl⟩)))) (by omega) (by omega) (by omega) kk
                      · exact absurd h30 (by omega)
                    · exact absurd h29 (by omega)
                  · exact absurd h28 (by decide)
              · exact absurd h26 (by omega)
            · exact absurd h25 (by decide)
        · refine g_iconst F (v := 2) dL_law_317 (by decide) ?_
          refine g_goto F 344 dL_law_318 (by decide) ?_
          refine g_istore F (lv2 := [(11, _), (10, _), (9, _), (8, _), (0, _), (1, _), (2, _), (3, _), (4, _), (5, _), (6, _), (7, _)]) dL_law_344 (by decide) rfl ?_
          refine g_iload F dL_law_346 0 rfl ?_
          refine g_if_ne F 361 dL_law_348 (by decide) (fun h32 => ?_) (fun h32 => ?_)
          · refine g_iload F dL_law_361 0 rfl ?_
            refine g_iconst F (v := 1) dL_law_363 (by decide) ?_
            refine g_icmpN_ne F 377 dL_law_364 (by decide) (2) (1) rfl rfl (by omega) (by omega) (fun h33 => ?_) (fun h33 => ?_)
            · refine g_iload F dL_law_377 0 rfl ?_
              refine g_iconst F (v := 4) dL_law_379 (by decide) ?_
              refine g_icmpN_ge F 392 dL_law_380 (by decide) (2) (4) rfl rfl (by omega) (by omega) (fun h34 => ?_) (fun h34 => ?_)
              · exact absurd h34 (by omega)
              · refine g_iload F dL_law_383 1 rfl ?_
                refine g_iconst F (v := 3) dL_law_385 (by decide) ?_
                refine g_callS F (kL_low l _ (3) (by omega) (by omega)) (va_cwS 2 F.1.2.2.2.2 gL_law_L_low rfl rfl rfl (by decide +kernel) ⟨Nat.le_of_ble_eq_true rfl, Nat.le_of_ble_eq_true rfl⟩) rfl rfl rfl (Nat.le_of_ble_eq_true rfl) dL_law_386 ⟨by show cs + 0 + 0 + 0 + 0 ≤ 600086; omega, by show sl + 0 + 0 + 0 + 0 ≤ 7301442; omega⟩ (fun v9 u9 h9 => ?_)
                obtain ⟨⟨v17, hv17, rfl⟩, eu9⟩ := h9
                obtain rfl := eu9.symm
                refine g_goto F 421 dL_law_389 (by decide) ?_
                refine g_istore F (lv2 := [(12, _), (11, _), (10, _), (9, _), (8, _), (0, _), (1, _), (2, _), (3, _), (4, _), (5, _), (6, _), (7, _)]) dL_law_421 (by decide) rfl ?_
                refine g_iload F dL_law_423 1 rfl ?_
                refine g_if_ne F 440 dL_law_425 (by decide) (fun h35 => ?_) (fun h35 => ?_)
                · refine g_iload F dL_law_440 1 rfl ?_
                  refine g_iconst F (v := 1) dL_law_442 (by decide) ?_
                  refine g_icmpN_ne F 457 dL_law_443 (by decide) (2) (1) rfl rfl (by omega) (by omega) (fun h36 => ?_) (fun h36 => ?_)
                  · refine g_iload F dL_law_457 1 rfl ?_
                    refine g_iconst F (v := 2) dL_law_459 (by decide) ?_
                    refine g_icmpN_ne F 477 dL_law_460 (by decide) (2) (2) rfl rfl (by omega) (by omega) (fun h37 => ?_) (fun h37 => ?_)
                    · exact absurd h37 (by omega)
                    · refine g_iload F dL_law_463 2 rfl ?_
                      refine g_iconst F (v := 5) dL_law_465 (by decide) ?_
                      refine g_ishr F dL_law_466 ?_
                      refine g_bipush F (v := 9) dL_law_467 (by decide +kernel) ?_
                      refine g_callS F (kL_low l _ (9) (by omega) (by omega)) (va_cwS 2 F.1.2.2.2.2 gL_law_L_low rfl rfl rfl (by decide +kernel) ⟨Nat.le_of_ble_eq_true rfl, Nat.le_of_ble_eq_true rfl⟩) rfl rfl rfl (Nat.le_of_ble_eq_true rfl) dL_law_469 ⟨by show cs + 0 + 0 + 0 + 0 + 0 ≤ 600086; omega, by show sl + 0 + 0 + 0 + 0 + 0 ≤ 7301442; omega⟩ (fun v9 u9 h9 => ?_)
                      obtain ⟨⟨v18, hv18, rfl⟩, eu9⟩ := h9
                      obtain rfl := eu9.symm
                      refine g_iconst F (v := 1) dL_law_472 (by decide) ?_
                      refine g_isub F dL_law_473 ?_
                      refine g_goto F 523 dL_law_474 (by decide) ?_
                      refine g_istore F (lv2 := [(13, _), (12, _), (11, _), (10, _), (9, _), (8, _), (0, _), (1, _), (2, _), (3, _), (4, _), (5, _), (6, _), (7, _)]) dL_law_523 (by decide) rfl ?_
                      refine g_iload F dL_law_525 3 rfl ?_
                      refine g_bipush F (v := 9) dL_law_527 (by decide +kernel) ?_
                      refine g_ishr F dL_law_529 ?_
                      refine g_sipush F (v := 200) dL_law_530 (by decide +kernel) ?_
                      refine g_callS F (kL_low l _ (200) (by omega) (by omega)) (va_cwS 2 F.1.2.2.2.2 gL_law_L_low rfl rfl rfl (by decide +kernel) ⟨Nat.le_of_ble_eq_true rfl, Nat.le_of_ble_eq_true rfl⟩) rfl rfl rfl (Nat.le_of_ble_eq_true rfl) dL_law_533 ⟨by show cs + 0 + 0 + 0 + 0 + 0 + 0 ≤ 600086; omega, by show sl + 0 + 0 + 0 + 0 + 0 + 0 ≤ 7301442; omega⟩ (fun v9 u9 h9 => ?_)
                      obtain ⟨⟨v19, hv19, rfl⟩, eu9⟩ := h9
                      obtain rfl := eu9.symm
                      refine g_istore F (lv2 := [(14, _), (13, _), (12, _), (11, _), (10, _), (9, _), (8, _), (0, _), (1, _), (2, _), (3, _), (4, _), (5, _), (6, _), (7, _)]) dL_law_536 (by decide) rfl ?_
                      refine g_lv (lv2 := [(14, _), (13, _), (12, _), (11, _), (10, _), (9, _), (8, _), (0, _), (1, _), (2, _), (3, _), (4, _), (5, _), (6, _), (7, _)]) [0, 1, 2, 3, 4, 5, 6, 7, 8, 9, 10, 11, 12, 13, 14] rfl ?_
                      refine g_widen (k := cs) (n := sl) (by show cs + 0 + 0 + 0 + 0 + 0 + 0 ≤ cs; omega) (by show sl + 0 + 0 + 0 + 0 + 0 + 0 ≤ sl; omega) ?_
                      exact law_tail hls F (κ := 2) (zz := v19) II8 (Or.inr (Or.inr (Or.inl ⟨rfl, ⟨v17, by omega, rfl⟩, VA_w hv18⟩))) (by omega) (by omega) (by omega) kk
                  · exact absurd h36 (by omega)
                · exact absurd h35 (by decide)
            · exact absurd h33 (by omega)
          · exact absurd h32 (by decide)
      · refine g_iconst F (v := 1) dL_law_306 (by decide) ?_
        refine g_goto F 344 dL_law_307 (by decide) ?_
        refine g_istore F (lv2 := [(11, _), (10, _), (9, _), (8, _), (0, _), (1, _), (2, _), (3, _), (4, _), (5, _), (6, _), (7, _)]) dL_law_344 (by decide) rfl ?_
        refine g_iload F dL_law_346 0 rfl ?_
        refine g_if_ne F 361 dL_law_348 (by decide) (fun h38 => ?_) (fun h38 => ?_)
        · refine g_iload F dL_law_361 0 rfl ?_
          refine g_iconst F (v := 1) dL_law_363 (by decide) ?_
          refine g_icmpN_ne F 377 dL_law_364 (by decide) (1) (1) rfl rfl (by omega) (by omega) (fun h39 => ?_) (fun h39 => ?_)
          · exact absurd h39 (by omega)
          · refine g_iload F dL_law_367 1 rfl ?_
            refine g_bipush F (v := 24) dL_law_369 (by decide +kernel) ?_
            refine g_callS F (kL_low l _ (24) (by omega) (by omega)) (va_cwS 2 F.1.2.2.2.2 gL_law_L_low rfl rfl rfl (by decide +kernel) ⟨Nat.le_of_ble_eq_true rfl, Nat.le_of_ble_eq_true rfl⟩) rfl rfl rfl (Nat.le_of_ble_eq_true rfl) dL_law_371 ⟨by show cs + 0 + 0 + 0 + 0 ≤ 600086; omega, by show sl + 0 + 0 + 0 + 0 ≤ 7301442; omega⟩ (fun v9 u9 h9 => ?_)
            obtain ⟨⟨v20, hv20, rfl⟩, eu9⟩ := h9
            obtain rfl := eu9.symm
            refine g_goto F 421 dL_law_374 (by decide) ?_
            refine g_istore F (lv2 := [(12, _), (11, _), (10, _), (9, _), (8, _), (0, _), (1, _), (2, _), (3, _), (4, _), (5, _), (6, _), (7, _)]) dL_law_421 (by decide) rfl ?_
            refine g_iload F dL_law_423 1 rfl ?_
            refine g_if_ne F 440 dL_law_425 (by decide) (fun h40 => ?_) (fun h40 => ?_)
            · refine g_iload F dL_law_440 1 rfl ?_
              refine g_iconst F (v := 1) dL_law_442 (by decide) ?_
              refine g_icmpN_ne F 457 dL_law_443 (by decide) (1) (1) rfl rfl (by omega) (by omega) (fun h41 => ?_) (fun h41 => ?_)
              · exact absurd h41 (by omega)
              · refine g_iload F dL_law_446 2 rfl ?_
                refine g_iconst F (v := 5) dL_law_448 (by decide) ?_
                refine g_ishr F dL_law_449 ?_
                refine g_iconst F (v := 5) dL_law_450 (by decide) ?_
                refine g_callS F (kL_low l _ (5) (by omega) (by omega)) (va_cwS 2 F.1.2.2.2.2 gL_law_L_low rfl rfl rfl (by decide +kernel) ⟨Nat.le_of_ble_eq_true rfl, Nat.le_of_ble_eq_true rfl⟩) rfl rfl rfl (Nat.le_of_ble_eq_true rfl) dL_law_451 ⟨by show cs + 0 + 0 + 0 + 0 + 0 ≤ 600086; omega, by show sl + 0 + 0 + 0 + 0 + 0 ≤ 7301442; omega⟩ (fun v9 u9 h9 => ?_)
                obtain ⟨⟨v21, hv21, rfl⟩, eu9⟩ := h9
                obtain rfl := eu9.symm
                refine g_goto F 523 dL_law_454 (by decide) ?_
                refine g_istore F (lv2 := [(13, _), (12, _), (11, _), (10, _), (9, _), (8, _), (0, _), (1, _), (2, _), (3, _), (4, _), (5, _), (6, _), (7, _)]) dL_law_523 (by decide) rfl ?_
                refine g_iload F dL_law_525 3 rfl ?_
                refine g_bipush F (v := 9) dL_law_527 (by decide +kernel) ?_
                refine g_ishr F dL_law_529 ?_
                refine g_sipush F (v := 200) dL_law_530 (by decide +kernel) ?_
                refine g_callS F (kL_low l _ (200) (by omega) (by omega)) (va_cwS 2 F.1.2.2.2.2 gL_law_L_low rfl rfl rfl (by decide +kernel) ⟨Nat.le_of_ble_eq_true rfl, Nat.le_of_ble_eq_true rfl⟩) rfl rfl rfl (Nat.le_of_ble_eq_true rfl) dL_law_533 ⟨by show cs + 0 + 0 + 0 + 0 + 0 + 0 ≤ 600086; omega, by show sl + 0 + 0 + 0 + 0 + 0 + 0 ≤ 7301442; omega⟩ (fun v9 u9 h9 => ?_)
                obtain ⟨⟨v22, hv22, rfl⟩, eu9⟩ := h9
                obtain rfl := eu9.symm
                refine g_istore F (lv2 := [(14, _), (13, _), (12, _), (11, _), (10, _), (9, _), (8, _), (0, _), (1, _), (2, _), (3, _), (4, _), (5, _), (6, _), (7, _)]) dL_law_536 (by decide) rfl ?_
                refine g_lv (lv2 := [(14, _), (13, _), (12, _), (11, _), (10, _), (9, _), (8, _), (0, _), (1, _), (2, _), (3, _), (4, _), (5, _), (6, _), (7, _)]) [0, 1, 2, 3, 4, 5, 6, 7, 8, 9, 10, 11, 12, 13, 14] rfl ?_
                refine g_widen (k := cs) (n := sl) (by show cs + 0 + 0 + 0 + 0 + 0 + 0 ≤ cs; omega) (by show sl + 0 + 0 + 0 + 0 + 0 + 0 ≤ sl; omega) ?_
                exact law_tail hls F (κ := 1) (zz := v22) II8 (Or.inr (Or.inl ⟨rfl, ⟨v20, by omega, rfl⟩, v21, by omega, rfl⟩)) (by omega) (by omega) (by omega) kk
            · exact absurd h40 (by decide)
        · exact absurd h38 (by decide)
    · refine g_iconst F (v := 0) dL_law_296 (by decide) ?_
      refine g_goto F 344 dL_law_297 (by decide) ?_
      refine g_istore F (lv2 := [(11, _), (10, _), (9, _), (8, _), (0, _), (1, _), (2, _), (3, _), (4, _), (5, _), (6, _), (7, _)]) dL_law_344 (by decide) rfl ?_
      refine g_iload F dL_law_346 0 rfl ?_
      refine g_if_ne F 361 dL_law_348 (by decide) (fun h42 => ?_) (fun h42 => ?_)
      · exact absurd h42 (by decide)
      · refine g_iload F dL_law_351 1 rfl ?_
        refine g_bipush F (v := 8) dL_law_353 (by decide +kernel) ?_
        refine g_callS F (kL_low l _ (8) (by omega) (by omega)) (va_cwS 2 F.1.2.2.2.2 gL_law_L_low rfl rfl rfl (by decide +kernel) ⟨Nat.le_of_ble_eq_true rfl, Nat.le_of_ble_eq_true rfl⟩) rfl rfl rfl (Nat.le_of_ble_eq_true rfl) dL_law_355 ⟨by show cs + 0 + 0 + 0 + 0 ≤ 600086; omega, by show sl + 0 + 0 + 0 + 0 ≤ 7301442; omega⟩ (fun v9 u9 h9 => ?_)
        obtain ⟨⟨v23, hv23, rfl⟩, eu9⟩ := h9
        obtain rfl := eu9.symm
        refine g_goto F 421 dL_law_358 (by decide) ?_
        refine g_istore F (lv2 := [(12, _), (11, _), (10, _), (9, _), (8, _), (0, _), (1, _), (2, _), (3, _), (4, _), (5, _), (6, _), (7, _)]) dL_law_421 (by decide) rfl ?_
        refine g_iload F dL_law_423 1 rfl ?_
        refine g_if_ne F 440 dL_law_425 (by decide) (fun h43 => ?_) (fun h43 => ?_)
        · exact absurd h43 (by decide)
        · refine g_iload F dL_law_428 2 rfl ?_
          refine g_iconst F (v := 5) dL_law_430 (by decide) ?_
          refine g_ishr F dL_law_431 ?_
          refine g_bipush F (v := 10) dL_law_432 (by decide +kernel) ?_
          refine g_callS F (kL_low l _ (10) (by omega) (by omega)) (va_cwS 2 F.1.2.2.2.2 gL_law_L_low rfl rfl rfl (by decide +kernel) ⟨Nat.le_of_ble_eq_true rfl, Nat.le_of_ble_eq_true rfl⟩) rfl rfl rfl (Nat.le_of_ble_eq_true rfl) dL_law_434 ⟨by show cs + 0 + 0 + 0 + 0 + 0 ≤ 600086; omega, by show sl + 0 + 0 + 0 + 0 + 0 ≤ 7301442; omega⟩ (fun v9 u9 h9 => ?_)
          obtain ⟨⟨v24, hv24, rfl⟩, eu9⟩ := h9
          obtain rfl := eu9.symm
          refine g_goto F 523 dL_law_437 (by decide) ?_
          refine g_istore F (lv2 := [(13, _), (12, _), (11, _), (10, _), (9, _), (8, _), (0, _), (1, _), (2, _), (3, _), (4, _), (5, _), (6, _), (7, _)]) dL_law_523 (by decide) rfl ?_
          refine g_iload F dL_law_525 3 rfl ?_
          refine g_bipush F (v := 9) dL_law_527 (by decide +kernel) ?_
          refine g_ishr F dL_law_529 ?_
          refine g_sipush F (v := 200) dL_law_530 (by decide +kernel) ?_
          refine g_callS F (kL_low l _ (200) (by omega) (by omega)) (va_cwS 2 F.1.2.2.2.2 gL_law_L_low rfl rfl rfl (by decide +kernel) ⟨Nat.le_of_ble_eq_true rfl, Nat.le_of_ble_eq_true rfl⟩) rfl rfl rfl (Nat.le_of_ble_eq_true rfl) dL_law_533 ⟨by show cs + 0 + 0 + 0 + 0 + 0 + 0 ≤ 600086; omega, by show sl + 0 + 0 + 0 + 0 + 0 + 0 ≤ 7301442; omega⟩ (fun v9 u9 h9 => ?_)
          obtain ⟨⟨v25, hv25, rfl⟩, eu9⟩ := h9
          obtain rfl := eu9.symm
          refine g_istore F (lv2 := [(14, _), (13, _), (12, _), (11, _), (10, _), (9, _), (8, _), (0, _), (1, _), (2, _), (3, _), (4, _), (5, _), (6, _), (7, _)]) dL_law_536 (by decide) rfl ?_
          refine g_lv (lv2 := [(14, _), (13, _), (12, _), (11, _), (10, _), (9, _), (8, _), (0, _), (1, _), (2, _), (3, _), (4, _), (5, _), (6, _), (7, _)]) [0, 1, 2, 3, 4, 5, 6, 7, 8, 9, 10, 11, 12, 13, 14] rfl ?_
          refine g_widen (k := cs) (n := sl) (by show cs + 0 + 0 + 0 + 0 + 0 + 0 ≤ cs; omega) (by show sl + 0 + 0 + 0 + 0 + 0 + 0 ≤ sl; omega) ?_
          exact law_tail hls F (κ := 0) (zz := v25) II8 (Or.inl ⟨rfl, ⟨v23, by omega, rfl⟩, v24, by omega, rfl⟩) (by omega) (by omega) (by omega) kk
  · refine g_iload F dL_law_153 1 rfl ?_
    refine g_iload F dL_law_155 1 rfl ?_
    refine g_bipush F (v := 8) dL_law_157 (by decide +kernel) ?_
    refine g_ishr F dL_law_159 ?_
    refine g_iconst F (v := 5) dL_law_160 (by decide) ?_
    refine g_callS F (kL_low l _ (5) (by omega) (by omega)) (va_cwS 2 F.1.2.2.2.2 gL_law_L_low rfl rfl rfl (by decide +kernel) ⟨Nat.le_of_ble_eq_true rfl, Nat.le_of_ble_eq_true rfl⟩) rfl rfl rfl (Nat.le_of_ble_eq_true rfl) dL_law_161 ⟨by show cs + 0 + 0 + 0 + 0 ≤ 600086; omega, by show sl + 0 + 0 + 0 + 0 ≤ 7301442; omega⟩ (fun v9 u9 h9 => ?_)
    obtain ⟨⟨v26, hv26, rfl⟩, eu9⟩ := h9
    obtain rfl := eu9.symm
    refine g_if_ne F 172 dL_law_164 (by decide) (fun h44 => ?_) (fun h44 => ?_)
    · refine g_bipush F (v := 9) dL_law_172 (by decide +kernel) ?_
      refine g_callS F (kL_low l _ (9) (by omega) (by omega)) (va_cwS 2 F.1.2.2.2.2 gL_law_L_low rfl rfl rfl (by decide +kernel) ⟨Nat.le_of_ble_eq_true rfl, Nat.le_of_ble_eq_true rfl⟩) rfl rfl rfl (Nat.le_of_ble_eq_true rfl) dL_law_174 ⟨by show cs + 0 + 0 + 0 + 0 + 0 ≤ 600086; omega, by show sl + 0 + 0 + 0 + 0 + 0 ≤ 7301442; omega⟩ (fun v9 u9 h9 => ?_)
      obtain ⟨⟨v27, hv27, rfl⟩, eu9⟩ := h9
      obtain rfl := eu9.symm
      refine g_istore F (lv2 := [(12, _), (11, _), (10, _), (9, _), (8, _), (0, _), (1, _), (2, _), (3, _), (4, _), (5, _), (6, _), (7, _)]) dL_law_177 (by decide) rfl ?_
      refine g_lv (lv2 := [(12, _), (8, _), (0, _), (1, _), (2, _), (3, _), (4, _), (5, _), (6, _), (7, _)]) [0, 4, 5, 6, 7, 8, 9, 10, 11, 12] rfl ?_
      refine g_widen (k := cs) (n := sl) (by show cs + 0 + 0 + 0 + 0 + 0 ≤ cs; omega) (by show sl + 0 + 0 + 0 + 0 + 0 ≤ sl; omega) ?_
      rw [← nI_pred v27]
      exact law_pass hls F (by omega) (by omega) kk (v27 + 1) _ cs sl (by omega) II9 (by omega) (by omega)
    · refine g_bipush F (v := 40) dL_law_167 (by decide +kernel) ?_
      refine g_goto F 174 dL_law_169 (by decide) ?_
      refine g_callS F (kL_low l _ (40) (by omega) (by omega)) (va_cwS 2 F.1.2.2.2.2 gL_law_L_low rfl rfl rfl (by decide +kernel) ⟨Nat.le_of_ble_eq_true rfl, Nat.le_of_ble_eq_true rfl⟩) rfl rfl rfl (Nat.le_of_ble_eq_true rfl) dL_law_174 ⟨by show cs + 0 + 0 + 0 + 0 + 0 ≤ 600086; omega, by show sl + 0 + 0 + 0 + 0 + 0 ≤ 7301442; omega⟩ (fun v9 u9 h9 => ?_)
      obtain ⟨⟨v28, hv28, rfl⟩, eu9⟩ := h9
      obtain rfl := eu9.symm
      refine g_istore F (lv2 := [(12, _), (11, _), (10, _), (9, _), (8, _), (0, _), (1, _), (2, _), (3, _), (4, _), (5, _), (6, _), (7, _)]) dL_law_177 (by decide) rfl ?_
      refine g_lv (lv2 := [(12, _), (8, _), (0, _), (1, _), (2, _), (3, _), (4, _), (5, _), (6, _), (7, _)]) [0, 4, 5, 6, 7, 8, 9, 10, 11, 12] rfl ?_
      refine g_widen (k := cs) (n := sl) (by show cs + 0 + 0 + 0 + 0 + 0 ≤ cs; omega) (by show sl + 0 + 0 + 0 + 0 + 0 ≤ sl; omega) ?_
      rw [← nI_pred v28]
      exact law_pass hls F (by omega) (by omega) kk (v28 + 1) _ cs sl (by omega) II9 (by omega) (by omega)
theorem law_loop (hls : l.stackTraces = false) (F : Fx pp room_1 ss mm aa me c9 cL_law 21 wsL_law RL DD ca (AB B)) (hX : va_X b L9 xs ss ss.heap) (hb : b < ss.heap.size) (hbA : ¬ AB B b) (hL9 : L9 ≤ 260) (ke : ∀ (M : Mm) (cs sl : Nat), cs ≤ 600086 → sl ≤ 7301442 → ∀ lv, G pp l ee room_1 ss mm aa bb me c9 QQ DD ca B ([] : va_W) (AB B) 21 cs sl M 691 lv []) : ∀ (k j : Nat) (M : Mm), INVp M → j + k = 60 → G pp l ee room_1 ss mm aa bb me c9 QQ DD ca B ([] : va_W) (AB B) 21 (1000 + 8000 * j) (50000 + 48000 * j) M 108 [(8, .int (nI j)), (0, .ref b), (1, .ref (B + 0)), (2, .ref (B + 709)), (3, .ref (B + 710)), (4, .ref (B + 711)), (5, .ref (B + 712)), (6, .ref (B + 713)), (7, .ref (B + 714))] [] := by
  have head : ∀ (j : Nat) (M : Mm), j ≤ 60 → (j < 60 → G pp l ee room_1 ss mm aa bb me c9 QQ DD ca B ([] : va_W) (AB B) 21 (1000 + 8000 * j) (50000 + 48000 * j) M 115 [(8, .int (nI j)), (0, .ref b), (1, .ref (B + 0)), (2, .ref (B + 709)), (3, .ref (B + 710)), (4, .ref (B + 711)), (5, .ref (B + 712)), (6, .ref (B + 713)), (7, .ref (B + 714))] []) → G pp l ee room_1 ss mm aa bb me c9 QQ DD ca B ([] : va_W) (AB B) 21 (1000 + 8000 * j) (50000 + 48000 * j) M 108 [(8, .int (nI j)), (0, .ref b), (1, .ref (B + 0)), (2, .ref (B + 709)), (3, .ref (B + 710)), (4, .ref (B + 711)), (5, .ref (B + 712)), (6, .ref (B + 713)), (7, .ref (B + 714))] [] := by
    intro j M hj kb
    refine g_iload F dL_law_108 0 rfl ?_
    refine g_bipush F (v := 60) dL_law_110 (by decide +kernel) ?_
    refine g_icmpN_ge F 691 dL_law_112 (by decide) j 60 rfl rfl (by omega) (by omega) (fun h1 => ?_) (fun h1 => ?_)
    · exact ke M _ _ (by omega) (by omega) _
    · exact kb h1
  intro k
  induction k with
  | zero => exact fun j M I hj => head j M (by omega) (fun h => absurd h (by omega))
  | succ k ih =>
    intro j M I hj
    refine head j M (by omega) (fun h6 => ?_)
    refine law_body hls F hX hb hbA hL9 h6 I (by omega) (by omega) (fun M2 I2 => ?_)
    refine g_iinc F (lv2 := [(8, _), (0, _), (1, _), (2, _), (3, _), (4, _), (5, _), (6, _), (7, _)]) dL_law_685 0 rfl (nI_1 j) (by decide) rfl ?_
    refine g_goto F 108 dL_law_688 (by decide) ?_
    refine g_widen (k := 1000 + 8000 * (j + 1)) (n := 50000 + 48000 * (j + 1)) (by omega) (by omega) ?_
    exact ih (j + 1) M2 I2 (by omega)
end LAWB
