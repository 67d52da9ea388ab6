/-! the law's tick -/
/-- the notices of a tick, of the first k chimneys -/
def NI9 (c g r m f : Nat → Int32) (t p k : Nat) (z : (Nat → Int32) × (Nat → Int32)) : Prop := ∃ j, j ≤ 20 ∧ RV (gnI f t p k) t p j ∧ LAW c g z.1 r m z.2 (gnI f t p k) (t + 1) j ∧ gnI f t p k 71 = f 71
theorem NI9_no {c g r m f : Nat → Int32} {t p k : Nat} {z : (Nat → Int32) × (Nat → Int32)} (h : NI9 c g r m f t p k z) (hn : gnR (gnI f t p k) t p k = gnI f t p k) : NI9 c g r m f t p (k + 1) z := by
  unfold NI9
  rw [show gnI f t p (k + 1) = gnI f t p k from hn]
  exact h
theorem NI9_yes {c g r m f : Nat → Int32} {t p k j : Nat} {q n : Nat → Int32} {v : Int32} (hk : k < 8) (ht : t < 96) (hj : j < 20) (hv : RV (gnI f t p k) t p j) (L : LAW c g q r m n (gnI f t p k) (t + 1) j) (h71 : gnI f t p k 71 = f 71) (hu : upR (rgR (gnI f t p k) k) (gnI f t p k 71) (t + 1) = p) (hw : v = nI k + 8 * (1 + STL (gnI f t p k) k j) + 1024 * whR (gnI f t p k) k (t + 1 - p) p) : NI9 c g r m f t p (k + 1) (upd q 19 (q 19 + 1), upd n j v) := by
  refine ⟨j + 1, by omega, ?_⟩
  have e : gnI f t p (k + 1) = gtR (gnI f t p k) t p j k := gnR_yes hv.2.2.2.2.2.2.1 hv.2.2.2.2.1 hj (by rw [hu])
  rw [e]
  exact ⟨gtR_RV hj hv, LAW_gt ht hk hj hv L hw, (gt_o (by omega) (by omega) (by omega) (by omega) (by omega) (by omega)).trans h71⟩
theorem goR_o {f : Nat → Int32} {j : Nat} (h : j < 73 ∨ 75 ≤ j ∧ j < 172) : goR f j = f j := by
  unfold goR
  split
  · unfold fgR; rw [if_neg (by omega), upd_ne _ _ (by omega), upd_ne _ _ (by omega), upd_ne _ _ (by omega)]
  · exact upd_ne _ _ (by omega)
theorem LQ_qE {q f : Nat → Int32} {t e : Nat} (he : e ≤ 3) (h : LQ q f) : LQ (qE q f t e) f := fun j hj => by
  rw [qE_o (by omega) he, qE_o (by omega) he, qE_o (by omega) he]; exact h j hj
theorem ERR_a {f : Nat → Int32} {t e c : Nat} (hw : f (62 + e) = nI c) (hc : c < 8) (h : 0 ≤ rdgR f t e c - shR f c (nI t)) : ERR f t e = rdgR f t e c - shR f c (nI t) := by
  unfold ERR
  rw [if_neg (by rw [hw]; exact nI_ne1 (by omega)), hw, nI_clamp (by omega), absI_rd, if_neg (Int32.not_lt.mpr h)]
theorem ERR_b {f : Nat → Int32} {t e c : Nat} (hw : f (62 + e) = nI c) (hc : c < 8) (h : ¬ 0 ≤ rdgR f t e c - shR f c (nI t)) : ERR f t e = -(rdgR f t e c - shR f c (nI t)) := by
  unfold ERR
  rw [if_neg (by rw [hw]; exact nI_ne1 (by omega)), hw, nI_clamp (by omega), absI_rd, if_pos (Int32.not_le.mp h)]
theorem gnR_no {f : Nat → Int32} {t p j c u : Nat} (hv : RV f t p j) (ht : t < 96) (hu : u = upR (rgR f c) (f 71) (t + 1)) (h : ¬ u = p) : gnR f t p c = f :=
  gnR_no2 hv.2.2.2.2.1 (fun z => h (by rw [hu]; exact nI_inj (by have := upR_le (rgR f c) (f 71) (t + 1); omega) (by have := hv.2.2.2.1; omega) z))
/-- what a tick leaves: the arrays against the row of then -/
def TKP (M : Mm) (c f : Nat → Int32) : Option Value → Mm → Prop := fun v u => v = none ∧ ∃ g q r m n t j, u = lwM M c g q r m n ∧ t < 96 ∧ f 74 = nI t ∧ j ≤ 20 ∧ f 75 = nI j ∧ LAW c g q r m n f t j

abbrev rmL_tick : Room := { frames := 3, cells := 0, slots := 0, locals := 76 }
set_option maxHeartbeats 4000000 in
set_option maxRecDepth 100000 in
theorem kL_tick (l : Launch) {M : Mm} {c g q r m n f : Nat → Int32} {t p k : Nat} (L : LAW c g q r m n f t k) (hk : k ≤ 20) (hv : RV f t p k) (zz : RZ f t k) : Ct l yL_tick wsL_tick rmL_tick (fun B => [.ref (B + 709), .ref (B + 710), .ref (B + 711), .ref (B + 712), .ref (B + 713), .ref (B + 714)]) (lwM M c g q r m n) (fun _ => TKP M c (tkR f t p)) := by
  refine Ct.ofV (own := RL) (by decide +kernel) rfl rfl (fun B => Nat.le_of_ble_eq_true rfl) ?_
  intro pp ee ss mm aa bb me c9 DD ca B Tl AA QQ F K
  show G pp l ee rmL_tick ss mm aa bb me c9 QQ DD ca B Tl AA 12 0 0 (lwM M c g q r m n) 0 [(0, .ref (B + 709)), (1, .ref (B + 710)), (2, .ref (B + 711)), (3, .ref (B + 712)), (4, .ref (B + 713)), (5, .ref (B + 714))] []
  obtain ⟨hC, hG, hK, hQ, hE, ⟨h15, h16, h17, h18f, h19⟩, hR, hM9, hN⟩ := id L
  have h74 := hv.2.1
  have ht := hv.1
  have hp8 := hv.2.2.2.1
  have h18 : q 18 = nI t := h18f.trans h74
  have hS : SH f := zz.2.1
  have hW := hv.2.2.2.2.2.2.2.2
  have h0 : ∀ d, d < 8 → f (172 + 96 * d + t) = -1 := fun d hd => zz.2.2.1 d hd t (Nat.le_refl t) ht
  obtain ⟨Lm, hLm1, hLm5, eLm⟩ := zz.1
  obtain ⟨g1, eg1⟩ : ∃ g1, g1 = upd g (24 + t % 8) (g (t / 4)) := ⟨_, rfl⟩
  have hL3 := LAW_3 h74 ht hW h0 L hk
  rw [← eg1] at hL3
  have hG1 : LG g1 f := fun j9 hj9 => by rw [eg1, upd_ne _ _ (by omega)]; exact hG j9 hj9
  have hno : ∀ {e : Nat}, e < 3 → ¬ 0 ≤ f (62 + e) → f (62 + e) = -1 := fun {e} he h9 => (hW e he).elim id (fun ⟨c9, hc9, w9⟩ => absurd (by rw [w9]; exact nI_pos' (by omega)) h9)
  have h18E : ∀ e, e < 3 → qE q f t e 18 = nI t := fun e he => (qE_o (by omega) (by omega)).trans h18
  have hN0 : NI9 c g1 (rKb r f t 8) (mKb m f t 48) (f3R f t) t p 0 (qT (qE q f t 3) f 3, n) := ⟨k, hk, RV_ti (by omega) (RV_wa (by omega) (RV_nd hv)), hL3, rfl⟩
  refine g_aload_n F dL_tick_0 rfl 1 rfl ?_
  refine g_bipush F (v := 24) dL_tick_1 (by decide +kernel) ?_
  refine g_aload_n F dL_tick_3 rfl 2 rfl ?_
  refine g_bipush F (v := 18) dL_tick_4 (by decide +kernel) ?_
  refine g_iaload (r := 711) F a711 (18) rfl (by omega) (by decide) dL_tick_6 ?_
  refine g_top (y := nI t) h18 ?_
  refine g_bipush F (v := 8) dL_tick_7 (by decide +kernel) ?_
  refine g_irem F dL_tick_9 (by decide) ?_
  refine g_top (pk_rem (a := t) (d := 8) (by omega) (by omega) (by omega)) ?_
  refine g_iadd F dL_tick_10 ?_
  refine g_top (nI_add (24) ((t % 8))) ?_
  refine g_aload_n F dL_tick_11 rfl 1 rfl ?_
  refine g_aload_n F dL_tick_12 rfl 2 rfl ?_
  refine g_bipush F (v := 18) dL_tick_13 (by decide +kernel) ?_
  refine g_iaload (r := 711) F a711 (18) rfl (by omega) (by decide) dL_tick_15 ?_
  refine g_top (y := nI t) h18 ?_
  refine g_iconst F (v := 4) dL_tick_16 (by decide) ?_
  refine g_idiv F dL_tick_17 (by decide) ?_
  refine g_top (pk_div (a := t) (d := 4) (by omega) (by omega) (by omega)) ?_
  refine g_iaload (r := 710) F a710 ((t / 4)) rfl (by omega) (by decide) dL_tick_18 ?_
  refine g_top (y := g (t / 4)) rfl ?_
  refine g_iastore (r := 710) F a710 ((24 + (t % 8))) rfl (by omega) (by decide) dL_tick_19 ?_
  refine g_mem (lwS_710 _ _ _ _ _ _ _ _ _) ?_
  rw [← eg1]
  refine g_iconst F (v := 0) dL_tick_20 (by decide) ?_
  refine g_istore F (lv2 := [(6, _), (0, _), (1, _), (2, _), (3, _), (4, _), (5, _)]) dL_tick_21 (by decide) rfl ?_
  have LP : ∀ (nkq kq : Nat), kq + nkq = 8 → G pp l ee rmL_tick ss mm aa bb me c9 QQ DD ca B Tl AA 12 0 0 ((lwM M c g1 q (rKb r f t kq) (mKb m f t (6 * kq)) n)) 23 [(6, .int (nI kq)), (0, .ref (B + 709)), (1, .ref (B + 710)), (2, .ref (B + 711)), (3, .ref (B + 712)), (4, .ref (B + 713)), (5, .ref (B + 714))] [] := by
    intro nkq
    induction nkq with
    | zero =>
      intro kq hnkq
      refine g_iload F dL_tick_23 0 rfl ?_
      refine g_bipush F (v := 8) dL_tick_25 (by decide +kernel) ?_
      refine g_icmpN_ge F 188 dL_tick_27 (by decide) (kq) (8) rfl rfl (by omega) (by omega) (fun hckq => ?_) (fun hckq => ?_)
      · obtain rfl : kq = 8 := by omega
        refine g_iconst F (v := 0) dL_tick_188 (by decide) ?_
        refine g_istore F (lv2 := [(6, _), (0, _), (1, _), (2, _), (3, _), (4, _), (5, _)]) dL_tick_189 (by decide) rfl ?_
        have LE : ∀ (neq eq : Nat), eq + neq = 3 → G pp l ee rmL_tick ss mm aa bb me c9 QQ DD ca B Tl AA 12 0 0 ((lwM M c g1 (qE q f t eq) (rKb r f t 8) (mKb m f t 48) n)) 191 [(6, .int (nI eq)), (0, .ref (B + 709)), (1, .ref (B + 710)), (2, .ref (B + 711)), (3, .ref (B + 712)), (4, .ref (B + 713)), (5, .ref (B + 714))] [] := by
          intro neq
          induction neq with
          | zero =>
            intro eq hneq
            refine g_iload F dL_tick_191 0 rfl ?_
            refine g_iconst F (v := 3) dL_tick_193 (by decide) ?_
            refine g_icmpN_ge F 287 dL_tick_194 (by decide) (eq) (3) rfl rfl (by omega) (by omega) (fun hceq => ?_) (fun hceq => ?_)
            · obtain rfl : eq = 3 := by omega
              refine g_iconst F (v := 0) dL_tick_287 (by decide) ?_
              refine g_istore F (lv2 := [(6, _), (0, _), (1, _), (2, _), (3, _), (4, _), (5, _)]) dL_tick_288 (by decide) rfl ?_
              have LT : ∀ (ntq tq : Nat), tq + ntq = 3 → G pp l ee rmL_tick ss mm aa bb me c9 QQ DD ca B Tl AA 12 0 0 ((lwM M c g1 (qT (qE q f t 3) f tq) (rKb r f t 8) (mKb m f t 48) n)) 290 [(6, .int (nI tq)), (0, .ref (B + 709)), (1, .ref (B + 710)), (2, .ref (B + 711)), (3, .ref (B + 712)), (4, .ref (B + 713)), (5, .ref (B + 714))] [] := by
                intro ntq
                induction ntq with
                | zero =>
                  intro tq hntq
                  refine g_iload F dL_tick_290 0 rfl ?_
                  refine g_iconst F (v := 3) dL_tick_292 (by decide) ?_
                  refine g_icmpN_ge F 330 dL_tick_293 (by decide) (tq) (3) rfl rfl (by omega) (by omega) (fun hctq => ?_) (fun hctq => ?_)
                  · obtain rfl : tq = 3 := by omega
                    refine g_iconst F (v := 0) dL_tick_330 (by decide) ?_
                    refine g_istore F (lv2 := [(6, _), (0, _), (1, _), (2, _), (3, _), (4, _), (5, _)]) dL_tick_331 (by decide) rfl ?_
                    have LN9 : ∀ (nkq kq : Nat) (z9 : (Nat → Int32) × (Nat → Int32)), kq + nkq = 8 → NI9 c g1 (rKb r f t 8) (mKb m f t 48) (f3R f t) t p kq z9 → G pp l ee rmL_tick ss mm aa bb me c9 QQ DD ca B Tl AA 12 0 0 ((lwM M c g1 z9.1 (rKb r f t 8) (mKb m f t 48) z9.2)) 333 [(6, .int (nI kq)), (0, .ref (B + 709)), (1, .ref (B + 710)), (2, .ref (B + 711)), (3, .ref (B + 712)), (4, .ref (B + 713)), (5, .ref (B + 714))] [] := by
                      intro nkq
                      induction nkq with
                      | zero =>
                        intro kq z9 hnkq hykq
                        refine g_iload F dL_tick_333 0 rfl ?_
                        refine g_bipush F (v := 8) dL_tick_335 (by decide +kernel) ?_
                        refine g_icmpN_ge F 422 dL_tick_337 (by decide) (kq) (8) rfl rfl (by omega) (by omega) (fun hckq => ?_) (fun hckq => ?_)
                        · obtain ⟨j9, hj9, hv9, hL9, h71⟩ := hykq
                          have hq18 : z9.1 18 = nI t := hL9.2.2.2.2.2.1.2.2.2.1.trans hv9.2.1
                          obtain rfl : kq = 8 := by omega
                          refine g_aload_n F dL_tick_422 rfl 3 rfl ?_
                          refine g_bipush F (v := 18) dL_tick_423 (by decide +kernel) ?_
                          refine g_dup2 F dL_tick_425 rfl rfl ?_
                          refine g_iaload (r := 711) F a711 (18) rfl (by omega) (by decide) dL_tick_426 ?_
                          refine g_top (y := z9.1 18) rfl ?_
                          refine g_iconst F (v := 1) dL_tick_427 (by decide) ?_
                          refine g_iadd F dL_tick_428 ?_
                          refine g_iastore (r := 711) F a711 (18) rfl (by omega) (by decide) dL_tick_429 ?_
                          refine g_mem (lwS_711 _ _ _ _ _ _ _ _ _) ?_
                          refine g_aload_n F dL_tick_430 rfl 3 rfl ?_
                          refine g_bipush F (v := 18) dL_tick_431 (by decide +kernel) ?_
                          refine g_iaload (r := 711) F a711 (18) rfl (by omega) (by decide) dL_tick_433 ?_
                          refine g_top (y := nI (t + 1)) ((upd_at z9.1 18 (z9.1 18 + 1)).trans (by rw [hq18]; exact nI_1 t)) ?_
                          refine g_bipush F (v := 96) dL_tick_434 (by decide +kernel) ?_
                          refine g_icmpN_ne F 474 dL_tick_436 (by decide) ((t + 1)) (96) rfl rfl (by omega) (by omega) (fun h5 => ?_) (fun h5 => ?_)
                          · exact K _ _ _ dL_tick_474 (by first | exact ⟨rfl, _, _, _, _, _, t + 1, j9, rfl, by omega, (LAW_go (by omega) hv9.2.1 hL9).1, hj9, ((goR_o (Or.inr ⟨by omega, by omega⟩)).trans hv9.2.2.2.2.2.2.1), (LAW_go (by omega) hv9.2.1 hL9).2⟩ | exact ⟨rfl, _, _, _, _, _, 0, j9, rfl, by omega, (LAW_day hj9 h5 hv9.2.1 hL9).1, hj9, ((goR_o (Or.inr ⟨by omega, by omega⟩)).trans hv9.2.2.2.2.2.2.1), (LAW_day hj9 h5 hv9.2.1 hL9).2⟩)
                          · refine g_aload_n F dL_tick_439 rfl 3 rfl ?_
                            refine g_bipush F (v := 18) dL_tick_440 (by decide +kernel) ?_
                            refine g_iconst F (v := 0) dL_tick_442 (by decide) ?_
                            refine g_iastore (r := 711) F a711 (18) rfl (by omega) (by decide) dL_tick_443 ?_
                            refine g_mem (lwS_711 _ _ _ _ _ _ _ _ _) ?_
                            refine g_aload_n F dL_tick_444 rfl 3 rfl ?_
                            refine g_bipush F (v := 17) dL_tick_445 (by decide +kernel) ?_
                            refine g_dup2 F dL_tick_447 rfl rfl ?_
                            refine g_iaload (r := 711) F a711 (17) rfl (by omega) (by decide) dL_tick_448 ?_
                            refine g_top (y := upd (upd z9.1 18 (z9.1 18 + 1)) 18 0 17) rfl ?_
                            refine g_iconst F (v := 1) dL_tick_449 (by decide) ?_
                            refine g_iadd F dL_tick_450 ?_
                            refine g_iastore (r := 711) F a711 (17) rfl (by omega) (by decide) dL_tick_451 ?_
                            refine g_mem (lwS_711 _ _ _ _ _ _ _ _ _) ?_
                            refine g_iconst F (v := 0) dL_tick_452 (by decide) ?_
                            refine g_istore F (lv2 := [(6, _), (0, _), (1, _), (2, _), (3, _), (4, _), (5, _)]) dL_tick_453 (by decide) rfl ?_
                            have LZ : ∀ (nxq xq : Nat), xq + nxq = 48 → G pp l ee rmL_tick ss mm aa bb me c9 QQ DD ca B Tl AA 12 0 0 ((lwM M c g1 (upd (upd (upd z9.1 18 (z9.1 18 + 1)) 18 0) 17 (upd (upd z9.1 18 (z9.1 18 + 1)) 18 0 17 + 1)) (rKb r f t 8) (zK (mKb m f t 48) xq) z9.2)) 455 [(6, .int (nI xq)), (0, .ref (B + 709)), (1, .ref (B + 710)), (2, .ref (B + 711)), (3, .ref (B + 712)), (4, .ref (B + 713)), (5, .ref (B + 714))] [] := by
                              intro nxq
                              induction nxq with
                              | zero =>
                                intro xq hnxq
                                refine g_iload F dL_tick_455 0 rfl ?_
                                refine g_bipush F (v := 48) dL_tick_457 (by decide +kernel) ?_
                                refine g_icmpN_ge F 474 dL_tick_459 (by decide) (xq) (48) rfl rfl (by omega) (by omega) (fun hcxq => ?_) (fun hcxq => ?_)
                                · obtain rfl : xq = 48 := by omega
                                  exact K _ _ _ dL_tick_474 (by first | exact ⟨rfl, _, _, _, _, _, t + 1, j9, rfl, by omega, (LAW_go (by omega) hv9.2.1 hL9).1, hj9, ((goR_o (Or.inr ⟨by omega, by omega⟩)).trans hv9.2.2.2.2.2.2.1), (LAW_go (by omega) hv9.2.1 hL9).2⟩ | exact ⟨rfl, _, _, _, _, _, 0, j9, rfl, by omega, (LAW_day hj9 h5 hv9.2.1 hL9).1, hj9, ((goR_o (Or.inr ⟨by omega, by omega⟩)).trans hv9.2.2.2.2.2.2.1), (LAW_day hj9 h5 hv9.2.1 hL9).2⟩)
                                · exact absurd hcxq (by omega)
                              | succ nxq ihxq =>
                                intro xq hnxq
                                refine g_iload F dL_tick_455 0 rfl ?_
                                refine g_bipush F (v := 48) dL_tick_457 (by decide +kernel) ?_
                                refine g_icmpN_ge F 474 dL_tick_459 (by decide) (xq) (48) rfl rfl (by omega) (by omega) (fun hcxq => ?_) (fun hcxq => ?_)
                                · exact absurd hcxq (by omega)
                                · refine g_aload F dL_tick_462 5 rfl ?_
                                  refine g_iload F dL_tick_464 0 rfl ?_
                                  refine g_iconst F (v := 0) dL_tick_466 (by decide) ?_
                                  refine g_iastore (r := 713) F a713 (xq) rfl (by omega) (by decide) dL_tick_467 ?_
                                  refine g_mem (lwS_713 _ _ _ _ _ _ _ _ _) ?_
                                  rw [zK_s]
                                  refine g_iinc F (lv2 := [(6, _), (0, _), (1, _), (2, _), (3, _), (4, _), (5, _)]) dL_tick_468 0 rfl (nI_1 _) (by decide) rfl ?_
                                  refine g_goto F 455 dL_tick_471 (by decide) ?_
                                  refine g_lv (lv2 := [(6, _), (0, _), (1, _), (2, _), (3, _), (4, _), (5, _)]) [0, 1, 2, 3, 4, 5, 6] rfl ?_
                                  exact g_is rfl rfl (ihxq (xq + 1) (by omega))
                            refine g_lv (lv2 := [(6, _), (0, _), (1, _), (2, _), (3, _), (4, _), (5, _)]) [0, 1, 2, 3, 4, 5, 6] rfl ?_
                            exact g_is (by rw [zK_0]) rfl (LZ (48 - 0) (0) (by omega))
                        · exact absurd hckq (by omega)
                      | succ nkq ihkq =>
                        intro kq z9 hnkq hykq
                        have hkq : kq < 8 := by omega
                        have hI9 := hykq
                        obtain ⟨j9, hj9, hv9, hL9, h71⟩ := hykq
                        obtain ⟨b1, b2, b3, b4, b5, ⟨b6a, b6b, b6c, b6d, b6e⟩, b7, b8, b9⟩ := id hL9
                        obtain ⟨u9, c9, l9, hu9, hc9, hl9q, eu9, ec9, el9, ep9⟩ := pk_split (rgR (gnI (f3R f t) t p kq) kq) (nI Lm) (t := t + 1) (by omega)
                        have e71 : (gnI (f3R f t) t p kq) 71 = nI Lm := h71.trans ((f3_lo (by omega)).trans eLm)
                        have eu7 : u9 = upR (rgR (gnI (f3R f t) t p kq) kq) ((gnI (f3R f t) t p kq) 71) (t + 1) := by rw [e71]; exact eu9
                        refine g_iload F dL_tick_333 0 rfl ?_
                        refine g_bipush F (v := 8) dL_tick_335 (by decide +kernel) ?_
                        refine g_icmpN_ge F 422 dL_tick_337 (by decide) (kq) (8) rfl rfl (by omega) (by omega) (fun hckq => ?_) (fun hckq => ?_)
                        · exact absurd hckq (by omega)
                        · refine g_aload_n F dL_tick_340 rfl 3 rfl ?_
                          refine g_bipush F (v := 19) dL_tick_341 (by decide +kernel) ?_
                          refine g_iaload (r := 711) F a711 (19) rfl (by omega) (by decide) dL_tick_343 ?_
                          refine g_top (y := nI j9) (b6e.trans hv9.2.2.2.2.2.2.1) ?_
                          refine g_bipush F (v := 20) dL_tick_344 (by decide +kernel) ?_
                          refine g_icmpN_ge F 416 dL_tick_346 (by decide) (j9) (20) rfl rfl (by omega) (by omega) (fun h1 => ?_) (fun h1 => ?_)
                          · have hB9 := NI9_no hI9 (gnR_no1 hv9.2.2.2.2.2.2.1 hj9 h1)
                            refine g_iinc F (lv2 := [(6, _), (0, _), (1, _), (2, _), (3, _), (4, _), (5, _)]) dL_tick_416 0 rfl (nI_1 _) (by decide) rfl ?_
                            refine g_goto F 333 dL_tick_419 (by decide) ?_
                            refine g_lv (lv2 := [(6, _), (0, _), (1, _), (2, _), (3, _), (4, _), (5, _)]) [0, 1, 2, 3, 4, 5, 6] rfl ?_
                            have hK9 := ihkq (kq + 1) _ (by omega) hB9
                            exact g_is rfl rfl hK9
                          · refine g_aload F dL_tick_349 5 rfl ?_
                            refine g_bipush F (v := 6) dL_tick_351 (by decide +kernel) ?_
                            refine g_iload F dL_tick_353 0 rfl ?_
                            refine g_imul F dL_tick_355 ?_
                            refine g_top (pk_mul (6) (kq)) ?_
                            refine g_aload_n F dL_tick_356 rfl 3 rfl ?_
                            refine g_bipush F (v := 15) dL_tick_357 (by decide +kernel) ?_
                            refine g_iaload (r := 711) F a711 (15) rfl (by omega) (by decide) dL_tick_359 ?_
                            refine g_top (y := nI Lm) (b6a.trans e71) ?_
                            refine g_iadd F dL_tick_360 ?_
                            refine g_top (nI_add ((6 * kq)) (Lm)) ?_
                            refine g_iaload (r := 713) F a713 (((6 * kq) + Lm)) rfl (by omega) (by decide) dL_tick_361 ?_
                            refine g_top (y := nI (u9 + 128 * c9 + 16384 * l9)) ((b8 kq hkq Lm (by omega)).trans (congrArg nI ep9)) ?_
                            refine g_bipush F (v := 127) dL_tick_362 (by decide +kernel) ?_
                            refine g_iand F dL_tick_364 ?_
                            refine g_top (y := nI u9) (un_u hu9 hc9 hl9q) ?_
                            refine g_aload_n F dL_tick_365 rfl 3 rfl ?_
                            refine g_bipush F (v := 16) dL_tick_366 (by decide +kernel) ?_
                            refine g_iaload (r := 711) F a711 (16) rfl (by omega) (by decide) dL_tick_368 ?_
                            refine g_top (y := nI p) (b6b.trans hv9.2.2.2.2.1) ?_
                            refine g_icmpN_ne F 416 dL_tick_369 (by decide) (u9) (p) rfl rfl (by omega) (by omega) (fun h2 => ?_) (fun h2 => ?_)
                            · have hB9 := NI9_no hI9 (gnR_no hv9 ht eu7 h2)
                              refine g_iinc F (lv2 := [(6, _), (0, _), (1, _), (2, _), (3, _), (4, _), (5, _)]) dL_tick_416 0 rfl (nI_1 _) (by decide) rfl ?_
                              refine g_goto F 333 dL_tick_419 (by decide) ?_
                              refine g_lv (lv2 := [(6, _), (0, _), (1, _), (2, _), (3, _), (4, _), (5, _)]) [0, 1, 2, 3, 4, 5, 6] rfl ?_
                              have hK9 := ihkq (kq + 1) _ (by omega) hB9
                              exact g_is rfl rfl hK9
                            · refine g_aload F dL_tick_372 6 rfl ?_
                              refine g_aload_n F dL_tick_374 rfl 3 rfl ?_
                              refine g_bipush F (v := 19) dL_tick_375 (by decide +kernel) ?_
                              refine g_iaload (r := 711) F a711 (19) rfl (by omega) (by decide) dL_tick_377 ?_
                              refine g_top (y := nI j9) (b6e.trans hv9.2.2.2.2.2.2.1) ?_
                              refine g_iload F dL_tick_378 0 rfl ?_
                              refine g_bipush F (v := 8) dL_tick_380 (by decide +kernel) ?_
                              refine g_iconst F (v := 1) dL_tick_382 (by decide) ?_
                              refine g_iload F dL_tick_383 0 rfl ?_
                              refine g_aload_n F dL_tick_385 rfl 3 rfl ?_
                              refine g_aload F dL_tick_386 6 rfl ?_
                              refine g_callS F (kL_stand l (f := (gnI (f3R f t) t p kq)) (k := kq) (m := j9) (b6e.trans hv9.2.2.2.2.2.2.1) hj9 hkq b9) (va_cwS 3 F.1.2.2.2.2 gL_tick_L_stand rfl rfl rfl (by decide +kernel) ⟨Nat.le_of_ble_eq_true rfl, Nat.le_of_ble_eq_true rfl⟩) rfl rfl rfl (Nat.le_of_ble_eq_true rfl) dL_tick_388 ⟨Nat.le_of_ble_eq_true rfl, Nat.le_of_ble_eq_true rfl⟩ (g_det ?_)
                              refine g_iadd F dL_tick_391 ?_
                              refine g_imul F dL_tick_392 ?_
                              refine g_iadd F dL_tick_393 ?_
                              refine g_sipush F (v := 1024) dL_tick_394 (by decide +kernel) ?_
                              refine g_iload F dL_tick_397 0 rfl ?_
                              refine g_aload_n F dL_tick_399 rfl 2 rfl ?_
                              refine g_aload_n F dL_tick_400 rfl 3 rfl ?_
                              refine g_aload_n F dL_tick_401 rfl 4 rfl ?_
                              have hpt : p ≤ t + 1 := by have := upR_le (rgR (gnI (f3R f t) t p kq) kq) ((gnI (f3R f t) t p kq) 71) (t + 1); omega
                              refine g_callS F (kL_why l (f := (gnI (f3R f t) t p kq)) (t := t) (k := kq) (p := p) (b6d.trans hv9.2.1) (b6b.trans hv9.2.2.2.2.1) b6a hp8 hpt hkq ht (fun s h3 h4 => b3 s (by omega) (by omega)) (fun s h3 h4 => b7 kq hkq s (by omega) (by omega))) (va_cwS 4 F.1.2.2.2.2 gL_tick_L_why rfl rfl rfl (by decide +kernel) ⟨Nat.le_of_ble_eq_true rfl, Nat.le_of_ble_eq_true rfl⟩) rfl rfl rfl (Nat.le_of_ble_eq_true rfl) dL_tick_402 ⟨Nat.le_of_ble_eq_true rfl, Nat.le_of_ble_eq_true rfl⟩ (g_det ?_)
                              refine g_imul F dL_tick_405 ?_
                              refine g_iadd F dL_tick_406 ?_
                              refine g_iastore (r := 714) F a714 (j9) rfl (by omega) (by decide) dL_tick_407 ?_
                              refine g_mem (lwS_714 _ _ _ _ _ _ _ _ _) ?_
                              refine g_aload_n F dL_tick_408 rfl 3 rfl ?_
                              refine g_bipush F (v := 19) dL_tick_409 (by decide +kernel) ?_
                              refine g_dup2 F dL_tick_411 rfl rfl ?_
                              refine g_iaload (r := 711) F a711 (19) rfl (by omega) (by decide) dL_tick_412 ?_
                              refine g_top (y := z9.1 19) rfl ?_
                              refine g_iconst F (v := 1) dL_tick_413 (by decide) ?_
                              refine g_iadd F dL_tick_414 ?_
                              refine g_iastore (r := 711) F a711 (19) rfl (by omega) (by decide) dL_tick_415 ?_
                              refine g_mem (lwS_711 _ _ _ _ _ _ _ _ _) ?_
                              have hB9 := NI9_yes (v := nI kq + 8 * (1 + STL (gnI (f3R f t) t p kq) kq j9) + 1024 * whR (gnI (f3R f t) t p kq) kq (t + 1 - p) p) hkq ht h1 hv9 hL9 h71 (eu7.symm.trans h2) rfl
                              refine g_iinc F (lv2 := [(6, _), (0, _), (1, _), (2, _), (3, _), (4, _), (5, _)]) dL_tick_416 0 rfl (nI_1 _) (by decide) rfl ?_
                              refine g_goto F 333 dL_tick_419 (by decide) ?_
                              refine g_lv (lv2 := [(6, _), (0, _), (1, _), (2, _), (3, _), (4, _), (5, _)]) [0, 1, 2, 3, 4, 5, 6] rfl ?_
                              have hK9 := ihkq (kq + 1) _ (by omega) hB9
                              exact g_is rfl rfl hK9
                    refine g_lv (lv2 := [(6, _), (0, _), (1, _), (2, _), (3, _), (4, _), (5, _)]) [0, 1, 2, 3, 4, 5, 6] rfl ?_
                    have hE9LN9 := LN9 (8 - 0) (0) _ (by omega) hN0
                    exact g_is rfl rfl hE9LN9
                  · exact absurd hctq (by omega)
                | succ ntq ihtq =>
                  intro tq hntq
                  have htq : tq < 3 := by omega
                  refine g_iload F dL_tick_290 0 rfl ?_
                  refine g_iconst F (v := 3) dL_tick_292 (by decide) ?_
                  refine g_icmpN_ge F 330 dL_tick_293 (by decide) (tq) (3) rfl rfl (by omega) (by omega) (fun hctq => ?_) (fun hctq => ?_)
                  · exact absurd hctq (by omega)
                  · refine g_aload_n F dL_tick_296 rfl 3 rfl ?_
                    refine g_iconst F (v := 3) dL_tick_297 (by decide) ?_
                    refine g_iload F dL_tick_298 0 rfl ?_
                    refine g_iadd F dL_tick_300 ?_
                    refine g_top (nI_add (3) (tq)) ?_
                    refine g_aload_n F dL_tick_301 rfl 3 rfl ?_
                    refine g_bipush F (v := 6) dL_tick_302 (by decide +kernel) ?_
                    refine g_iload F dL_tick_304 0 rfl ?_
                    refine g_iadd F dL_tick_306 ?_
                    refine g_top (nI_add (6) (tq)) ?_
                    refine g_iaload (r := 711) F a711 ((6 + tq)) rfl (by omega) (by decide) dL_tick_307 ?_
                    refine g_top (y := f (62 + tq)) ((qT_o (Or.inr (by omega)) (by omega)).trans ((qE_o (Or.inl (by omega)) (by omega)).trans (hQ tq htq).2.2)) ?_
                    refine g_if_ge F 315 dL_tick_308 (by decide) (fun h1 => ?_) (fun h1 => ?_)
                    · refine g_aload_n F dL_tick_315 rfl 3 rfl ?_
                      refine g_iconst F (v := 3) dL_tick_316 (by decide) ?_
                      refine g_iload F dL_tick_317 0 rfl ?_
                      refine g_iadd F dL_tick_319 ?_
                      refine g_top (nI_add (3) (tq)) ?_
                      refine g_iaload (r := 711) F a711 ((3 + tq)) rfl (by omega) (by decide) dL_tick_320 ?_
                      refine g_top (y := qE q f t 3 (3 + tq)) qT_at ?_
                      refine g_iconst F (v := 1) dL_tick_321 (by decide) ?_
                      refine g_iadd F dL_tick_322 ?_
                      refine g_iastore (r := 711) F a711 ((3 + tq)) rfl (by omega) (by decide) dL_tick_323 ?_
                      refine g_mem (lwS_711 _ _ _ _ _ _ _ _ _) ?_
                      rw [qT_s (by first | exact (if_pos (hno htq h1)).symm | exact (if_neg (fun z9 => absurd h1 (by rw [z9]; decide))).symm)]
                      refine g_iinc F (lv2 := [(6, _), (0, _), (1, _), (2, _), (3, _), (4, _), (5, _)]) dL_tick_324 0 rfl (nI_1 _) (by decide) rfl ?_
                      refine g_goto F 290 dL_tick_327 (by decide) ?_
                      refine g_lv (lv2 := [(6, _), (0, _), (1, _), (2, _), (3, _), (4, _), (5, _)]) [0, 1, 2, 3, 4, 5, 6] rfl ?_
                      exact g_is rfl rfl (ihtq (tq + 1) (by omega))
                    · refine g_iconst F (v := 0) dL_tick_311 (by decide) ?_
                      refine g_goto F 323 dL_tick_312 (by decide) ?_
                      refine g_iastore (r := 711) F a711 ((3 + tq)) rfl (by omega) (by decide) dL_tick_323 ?_
                      refine g_mem (lwS_711 _ _ _ _ _ _ _ _ _) ?_
                      rw [qT_s (by first | exact (if_pos (hno htq h1)).symm | exact (if_neg (fun z9 => absurd h1 (by rw [z9]; decide))).symm)]
                      refine g_iinc F (lv2 := [(6, _), (0, _), (1, _), (2, _), (3, _), (4, _), (5, _)]) dL_tick_324 0 rfl (nI_1 _) (by decide) rfl ?_
                      refine g_goto F 290 dL_tick_327 (by decide) ?_
                      refine g_lv (lv2 := [(6, _), (0, _), (1, _), (2, _), (3, _), (4, _), (5, _)]) [0, 1, 2, 3, 4, 5, 6] rfl ?_
                      exact g_is rfl rfl (ihtq (tq + 1) (by omega))
              refine g_lv (lv2 := [(6, _), (0, _), (1, _), (2, _), (3, _), (4, _), (5, _)]) [0, 1, 2, 3, 4, 5, 6] rfl ?_
              exact g_is (by first | (rw [qT_0]; done) | (rw [qT_0]; rfl)) rfl (LT (3 - 0) (0) (by omega))
            · exact absurd hceq (by omega)
          | succ neq iheq =>
            intro eq hneq
            have heq : eq < 3 := by omega
            refine g_iload F dL_tick_191 0 rfl ?_
            refine g_iconst F (v := 3) dL_tick_193 (by decide) ?_
            refine g_icmpN_ge F 287 dL_tick_194 (by decide) (eq) (3) rfl rfl (by omega) (by omega) (fun hceq => ?_) (fun hceq => ?_)
            · exact absurd hceq (by omega)
            · refine g_aload_n F dL_tick_197 rfl 3 rfl ?_
              refine g_bipush F (v := 6) dL_tick_198 (by decide +kernel) ?_
              refine g_iload F dL_tick_200 0 rfl ?_
              refine g_iadd F dL_tick_202 ?_
              refine g_top (nI_add (6) (eq)) ?_
              refine g_iaload (r := 711) F a711 ((6 + eq)) rfl (by omega) (by decide) dL_tick_203 ?_
              refine g_top (y := f (62 + eq)) ((qE_o (Or.inl (by omega)) (by omega)).trans (hQ eq heq).2.2) ?_
              refine g_istore F (lv2 := [(7, _), (6, _), (0, _), (1, _), (2, _), (3, _), (4, _), (5, _)]) dL_tick_204 (by decide) rfl ?_
              refine g_iload F dL_tick_206 0 rfl ?_
              refine g_if_ge F 215 dL_tick_208 (by decide) (fun h1 => ?_) (fun h1 => ?_)
              · obtain hw9 | ⟨c9, hc9, hw9⟩ := hW eq heq
                · exact absurd h1 (by rw [hw9]; decide)
                rw [hw9]
                refine g_iload F dL_tick_215 1 rfl ?_
                refine g_iload F dL_tick_217 0 rfl ?_
                refine g_aload_n F dL_tick_219 rfl 2 rfl ?_
                refine g_aload_n F dL_tick_220 rfl 3 rfl ?_
                refine g_aload_n F dL_tick_221 rfl 4 rfl ?_
                refine g_callS F (kL_sees l (f := f) (t := t) (e := eq) (k := c9) hC hS hG1 (LQ_qE (by omega) hQ) (h18E eq heq) h74 heq hc9 ht) (va_cwS 5 F.1.2.2.2.2 gL_tick_L_sees rfl rfl rfl (by decide +kernel) ⟨Nat.le_of_ble_eq_true rfl, Nat.le_of_ble_eq_true rfl⟩) rfl rfl rfl (Nat.le_of_ble_eq_true rfl) dL_tick_222 ⟨Nat.le_of_ble_eq_true rfl, Nat.le_of_ble_eq_true rfl⟩ (g_det ?_)
                refine g_iload F dL_tick_225 0 rfl ?_
                refine g_aload_n F dL_tick_227 rfl 4 rfl ?_
                refine g_bipush F (v := 18) dL_tick_228 (by decide +kernel) ?_
                refine g_iaload (r := 711) F a711 (18) rfl (by omega) (by decide) dL_tick_230 ?_
                refine g_top (y := nI t) (h18E eq heq) ?_
                refine g_aload_n F dL_tick_231 rfl 2 rfl ?_
                refine g_callS F (kL_shade l (f := f) (k := c9) (t := t) hC hS hc9 ht) (va_cwS 3 F.1.2.2.2.2 gL_tick_L_shade rfl rfl rfl (by decide +kernel) ⟨Nat.le_of_ble_eq_true rfl, Nat.le_of_ble_eq_true rfl⟩) rfl rfl rfl (Nat.le_of_ble_eq_true rfl) dL_tick_232 ⟨Nat.le_of_ble_eq_true rfl, Nat.le_of_ble_eq_true rfl⟩ (g_det ?_)
                refine g_isub F dL_tick_235 ?_
                refine g_istore F (lv2 := [(8, _), (7, _), (6, _), (0, _), (1, _), (2, _), (3, _), (4, _), (5, _)]) dL_tick_236 (by decide) rfl ?_
                refine g_aload_n F dL_tick_238 rfl 5 rfl ?_
                refine g_bipush F (v := 9) dL_tick_239 (by decide +kernel) ?_
                refine g_iload F dL_tick_241 2 rfl ?_
                refine g_iadd F dL_tick_243 ?_
                refine g_top (nI_add (9) (eq)) ?_
                refine g_dup2 F dL_tick_244 rfl rfl ?_
                refine g_iaload (r := 711) F a711 ((9 + eq)) rfl (by omega) (by decide) dL_tick_245 ?_
                refine g_top (y := qE q f t eq (9 + eq)) rfl ?_
                refine g_iload F dL_tick_246 0 rfl ?_
                refine g_if_ge F 257 dL_tick_248 (by decide) (fun h2 => ?_) (fun h2 => ?_)
                · refine g_iload F dL_tick_257 0 rfl ?_
                  refine g_iadd F dL_tick_259 ?_
                  refine g_iastore (r := 711) F a711 ((9 + eq)) rfl (by omega) (by decide) dL_tick_260 ?_
                  refine g_mem (lwS_711 _ _ _ _ _ _ _ _ _) ?_
                  refine g_aload_n F dL_tick_261 rfl 5 rfl ?_
                  refine g_bipush F (v := 12) dL_tick_262 (by decide +kernel) ?_
                  refine g_iload F dL_tick_264 2 rfl ?_
                  refine g_iadd F dL_tick_266 ?_
                  refine g_top (nI_add (12) (eq)) ?_
                  refine g_dup2 F dL_tick_267 rfl rfl ?_
                  refine g_iaload (r := 711) F a711 ((12 + eq)) rfl (by omega) (by decide) dL_tick_268 ?_
                  refine g_top (y := qE q f t eq (12 + eq)) (upd_ne (qE q f t eq) _ (show 12 + eq ≠ 9 + eq by omega)) ?_
                  refine g_iload F dL_tick_269 1 rfl ?_
                  refine g_if_ge F 278 dL_tick_271 (by decide) (fun h3 => ?_) (fun h3 => ?_)
                  · refine g_iconst F (v := 1) dL_tick_278 (by decide) ?_
                    refine g_iadd F dL_tick_279 ?_
                    refine g_iastore (r := 711) F a711 ((12 + eq)) rfl (by omega) (by decide) dL_tick_280 ?_
                    refine g_mem (lwS_711 _ _ _ _ _ _ _ _ _) ?_
                    rw [qE_s heq (v := _) (w := _) (by first | exact (if_pos (hno heq h1)).symm | exact (ERR_a hw9 hc9 h2).symm | exact (ERR_b hw9 hc9 h2).symm) (by first | exact absurd h3 h1 | exact absurd h1 h3 | exact (if_pos (hno heq h1)).symm | exact (if_neg (by rw [hw9]; exact nI_ne1 (by omega))).symm | exact absurd (nI_pos' (n := c9) (by omega)) h3)]
                    refine g_iinc F (lv2 := [(6, _), (8, _), (7, _), (0, _), (1, _), (2, _), (3, _), (4, _), (5, _)]) dL_tick_281 2 rfl (nI_1 _) (by decide) rfl ?_
                    refine g_goto F 191 dL_tick_284 (by decide) ?_
                    refine g_lv (lv2 := [(6, _), (0, _), (1, _), (2, _), (3, _), (4, _), (5, _)]) [0, 3, 4, 5, 6, 7, 8] rfl ?_
                    exact g_is rfl rfl (iheq (eq + 1) (by omega))
                  · refine g_iconst F (v := 0) dL_tick_274 (by decide) ?_
                    refine g_goto F 279 dL_tick_275 (by decide) ?_
                    refine g_iadd F dL_tick_279 ?_
                    refine g_iastore (r := 711) F a711 ((12 + eq)) rfl (by omega) (by decide) dL_tick_280 ?_
                    refine g_mem (lwS_711 _ _ _ _ _ _ _ _ _) ?_
                    rw [qE_s heq (v := _) (w := _) (by first | exact (if_pos (hno heq h1)).symm | exact (ERR_a hw9 hc9 h2).symm | exact (ERR_b hw9 hc9 h2).symm) (by first | exact absurd h3 h1 | exact absurd h1 h3 | exact (if_pos (hno heq h1)).symm | exact (if_neg (by rw [hw9]; exact nI_ne1 (by omega))).symm | exact absurd (nI_pos' (n := c9) (by omega)) h3)]
                    refine g_iinc F (lv2 := [(6, _), (8, _), (7, _), (0, _), (1, _), (2, _), (3, _), (4, _), (5, _)]) dL_tick_281 2 rfl (nI_1 _) (by decide) rfl ?_
                    refine g_goto F 191 dL_tick_284 (by decide) ?_
                    refine g_lv (lv2 := [(6, _), (0, _), (1, _), (2, _), (3, _), (4, _), (5, _)]) [0, 3, 4, 5, 6, 7, 8] rfl ?_
                    exact g_is rfl rfl (iheq (eq + 1) (by omega))
                · refine g_iload F dL_tick_251 0 rfl ?_
                  refine g_ineg F dL_tick_253 ?_
                  refine g_goto F 259 dL_tick_254 (by decide) ?_
                  refine g_iadd F dL_tick_259 ?_
                  refine g_iastore (r := 711) F a711 ((9 + eq)) rfl (by omega) (by decide) dL_tick_260 ?_
                  refine g_mem (lwS_711 _ _ _ _ _ _ _ _ _) ?_
                  refine g_aload_n F dL_tick_261 rfl 5 rfl ?_
                  refine g_bipush F (v := 12) dL_tick_262 (by decide +kernel) ?_
                  refine g_iload F dL_tick_264 2 rfl ?_
                  refine g_iadd F dL_tick_266 ?_
                  refine g_top (nI_add (12) (eq)) ?_
                  refine g_dup2 F dL_tick_267 rfl rfl ?_
                  refine g_iaload (r := 711) F a711 ((12 + eq)) rfl (by omega) (by decide) dL_tick_268 ?_
                  refine g_top (y := qE q f t eq (12 + eq)) (upd_ne (qE q f t eq) _ (show 12 + eq ≠ 9 + eq by omega)) ?_
                  refine g_iload F dL_tick_269 1 rfl ?_
                  refine g_if_ge F 278 dL_tick_271 (by decide) (fun h3 => ?_) (fun h3 => ?_)
                  · refine g_iconst F (v := 1) dL_tick_278 (by decide) ?_
                    refine g_iadd F dL_tick_279 ?_
                    refine g_iastore (r := 711) F a711 ((12 + eq)) rfl (by omega) (by decide) dL_tick_280 ?_
                    refine g_mem (lwS_711 _ _ _ _ _ _ _ _ _) ?_
                    rw [qE_s heq (v := _) (w := _) (by first | exact (if_pos (hno heq h1)).symm | exact (ERR_a hw9 hc9 h2).symm | exact (ERR_b hw9 hc9 h2).symm) (by first | exact absurd h3 h1 | exact absurd h1 h3 | exact (if_pos (hno heq h1)).symm | exact (if_neg (by rw [hw9]; exact nI_ne1 (by omega))).symm | exact absurd (nI_pos' (n := c9) (by omega)) h3)]
                    refine g_iinc F (lv2 := [(6, _), (8, _), (7, _), (0, _), (1, _), (2, _), (3, _), (4, _), (5, _)]) dL_tick_281 2 rfl (nI_1 _) (by decide) rfl ?_
                    refine g_goto F 191 dL_tick_284 (by decide) ?_
                    refine g_lv (lv2 := [(6, _), (0, _), (1, _), (2, _), (3, _), (4, _), (5, _)]) [0, 3, 4, 5, 6, 7, 8] rfl ?_
                    exact g_is rfl rfl (iheq (eq + 1) (by omega))
                  · refine g_iconst F (v := 0) dL_tick_274 (by decide) ?_
                    refine g_goto F 279 dL_tick_275 (by decide) ?_
                    refine g_iadd F dL_tick_279 ?_
                    refine g_iastore (r := 711) F a711 ((12 + eq)) rfl (by omega) (by decide) dL_tick_280 ?_
                    refine g_mem (lwS_711 _ _ _ _ _ _ _ _ _) ?_
                    rw [qE_s heq (v := _) (w := _) (by first | exact (if_pos (hno heq h1)).symm | exact (ERR_a hw9 hc9 h2).symm | exact (ERR_b hw9 hc9 h2).symm) (by first | exact absurd h3 h1 | exact absurd h1 h3 | exact (if_pos (hno heq h1)).symm | exact (if_neg (by rw [hw9]; exact nI_ne1 (by omega))).symm | exact absurd (nI_pos' (n := c9) (by omega)) h3)]
                    refine g_iinc F (lv2 := [(6, _), (8, _), (7, _), (0, _), (1, _), (2, _), (3, _), (4, _), (5, _)]) dL_tick_281 2 rfl (nI_1 _) (by decide) rfl ?_
                    refine g_goto F 191 dL_tick_284 (by decide) ?_
                    refine g_lv (lv2 := [(6, _), (0, _), (1, _), (2, _), (3, _), (4, _), (5, _)]) [0, 3, 4, 5, 6, 7, 8] rfl ?_
                    exact g_is rfl rfl (iheq (eq + 1) (by omega))
              · refine g_iconst F (v := 0) dL_tick_211 (by decide) ?_
                refine g_goto F 236 dL_tick_212 (by decide) ?_
                refine g_istore F (lv2 := [(8, _), (7, _), (6, _), (0, _), (1, _), (2, _), (3, _), (4, _), (5, _)]) dL_tick_236 (by decide) rfl ?_
                refine g_aload_n F dL_tick_238 rfl 5 rfl ?_
                refine g_bipush F (v := 9) dL_tick_239 (by decide +kernel) ?_
                refine g_iload F dL_tick_241 2 rfl ?_
                refine g_iadd F dL_tick_243 ?_
                refine g_top (nI_add (9) (eq)) ?_
                refine g_dup2 F dL_tick_244 rfl rfl ?_
                refine g_iaload (r := 711) F a711 ((9 + eq)) rfl (by omega) (by decide) dL_tick_245 ?_
                refine g_top (y := qE q f t eq (9 + eq)) rfl ?_
                refine g_iload F dL_tick_246 0 rfl ?_
                refine g_if_ge F 257 dL_tick_248 (by decide) (fun h2 => ?_) (fun h2 => ?_)
                · refine g_iload F dL_tick_257 0 rfl ?_
                  refine g_iadd F dL_tick_259 ?_
                  refine g_iastore (r := 711) F a711 ((9 + eq)) rfl (by omega) (by decide) dL_tick_260 ?_
                  refine g_mem (lwS_711 _ _ _ _ _ _ _ _ _) ?_
                  refine g_aload_n F dL_tick_261 rfl 5 rfl ?_
                  refine g_bipush F (v := 12) dL_tick_262 (by decide +kernel) ?_
                  refine g_iload F dL_tick_264 2 rfl ?_
                  refine g_iadd F dL_tick_266 ?_
                  refine g_top (nI_add (12) (eq)) ?_
                  refine g_dup2 F dL_tick_267 rfl rfl ?_
                  refine g_iaload (r := 711) F a711 ((12 + eq)) rfl (by omega) (by decide) dL_tick_268 ?_
                  refine g_top (y := qE q f t eq (12 + eq)) (upd_ne (qE q f t eq) _ (show 12 + eq ≠ 9 + eq by omega)) ?_
                  refine g_iload F dL_tick_269 1 rfl ?_
                  refine g_if_ge F 278 dL_tick_271 (by decide) (fun h3 => ?_) (fun h3 => ?_)
                  · refine g_iconst F (v := 1) dL_tick_278 (by decide) ?_
                    refine g_iadd F dL_tick_279 ?_
                    refine g_iastore (r := 711) F a711 ((12 + eq)) rfl (by omega) (by decide) dL_tick_280 ?_
                    refine g_mem (lwS_711 _ _ _ _ _ _ _ _ _) ?_
                    rw [qE_s heq (v := _) (w := _) (by first | exact (if_pos (hno heq h1)).symm | exact (ERR_a hw9 hc9 h2).symm | exact (ERR_b hw9 hc9 h2).symm) (by first | exact absurd h3 h1 | exact absurd h1 h3 | exact (if_pos (hno heq h1)).symm | exact (if_neg (by rw [hw9]; exact nI_ne1 (by omega))).symm | exact absurd (nI_pos' (n := c9) (by omega)) h3)]
                    refine g_iinc F (lv2 := [(6, _), (8, _), (7, _), (0, _), (1, _), (2, _), (3, _), (4, _), (5, _)]) dL_tick_281 2 rfl (nI_1 _) (by decide) rfl ?_
                    refine g_goto F 191 dL_tick_284 (by decide) ?_
                    refine g_lv (lv2 := [(6, _), (0, _), (1, _), (2, _), (3, _), (4, _), (5, _)]) [0, 3, 4, 5, 6, 7, 8] rfl ?_
                    exact g_is rfl rfl (iheq (eq + 1) (by omega))
                  · refine g_iconst F (v := 0) dL_tick_274 (by decide) ?_
                    refine g_goto F 279 dL_tick_275 (by decide) ?_
                    refine g_iadd F dL_tick_279 ?_
                    refine g_iastore (r := 711) F a711 ((12 + eq)) rfl (by omega) (by decide) dL_tick_280 ?_
                    refine g_mem (lwS_711 _ _ _ _ _ _ _ _ _) ?_
                    rw [qE_s heq (v := _) (w := _) (by first | exact (if_pos (hno heq h1)).symm | exact (ERR_a hw9 hc9 h2).symm | exact (ERR_b hw9 hc9 h2).symm) (by first | exact absurd h3 h1 | exact absurd h1 h3 | exact (if_pos (hno heq h1)).symm | exact (if_neg (by rw [hw9]; exact nI_ne1 (by omega))).symm | exact absurd (nI_pos' (n := c9) (by omega)) h3)]
                    refine g_iinc F (lv2 := [(6, _), (8, _), (7, _), (0, _), (1, _), (2, _), (3, _), (4, _), (5, _)]) dL_tick_281 2 rfl (nI_1 _) (by decide) rfl ?_
                    refine g_goto F 191 dL_tick_284 (by decide) ?_
                    refine g_lv (lv2 := [(6, _), (0, _), (1, _), (2, _), (3, _), (4, _), (5, _)]) [0, 3, 4, 5, 6, 7, 8] rfl ?_
                    exact g_is rfl rfl (iheq (eq + 1) (by omega))
                · exact absurd h2 (by decide)
        refine g_lv (lv2 := [(6, _), (0, _), (1, _), (2, _), (3, _), (4, _), (5, _)]) [0, 1, 2, 3, 4, 5, 6] rfl ?_
        exact g_is (by first | (rw [qE_0]; done) | (rw [qE_0]; rfl)) rfl (LE (3 - 0) (0) (by omega))
      · exact absurd hckq (by omega)
    | succ nkq ihkq =>
      intro kq hnkq
      have hkq : kq < 8 := by omega
      refine g_iload F dL_tick_23 0 rfl ?_
      refine g_bipush F (v := 8) dL_tick_25 (by decide +kernel) ?_
      refine g_icmpN_ge F 188 dL_tick_27 (by decide) (kq) (8) rfl rfl (by omega) (by omega) (fun hckq => ?_) (fun hckq => ?_)
      · exact absurd hckq (by omega)
      · refine g_iload F dL_tick_30 0 rfl ?_
        refine g_aload_n F dL_tick_32 rfl 1 rfl ?_
        refine g_aload_n F dL_tick_33 rfl 2 rfl ?_
        refine g_aload_n F dL_tick_34 rfl 3 rfl ?_
        refine g_callS F (kL_reading l (f := f) (t := t) (k := kq) hC hS hG1 hQ h18 h74 hkq ht) (va_cwS 4 F.1.2.2.2.2 gL_tick_L_reading rfl rfl rfl (by decide +kernel) ⟨Nat.le_of_ble_eq_true rfl, Nat.le_of_ble_eq_true rfl⟩) rfl rfl rfl (Nat.le_of_ble_eq_true rfl) dL_tick_35 ⟨Nat.le_of_ble_eq_true rfl, Nat.le_of_ble_eq_true rfl⟩ (g_det ?_)
        refine g_istore F (lv2 := [(7, _), (6, _), (0, _), (1, _), (2, _), (3, _), (4, _), (5, _)]) dL_tick_38 (by decide) rfl ?_
        refine g_aload_n F dL_tick_40 rfl 5 rfl ?_
        refine g_bipush F (v := 8) dL_tick_41 (by decide +kernel) ?_
        refine g_iload F dL_tick_43 1 rfl ?_
        refine g_imul F dL_tick_45 ?_
        refine g_top (pk_mul (8) (kq)) ?_
        refine g_aload_n F dL_tick_46 rfl 4 rfl ?_
        refine g_bipush F (v := 18) dL_tick_47 (by decide +kernel) ?_
        refine g_iaload (r := 711) F a711 (18) rfl (by omega) (by decide) dL_tick_49 ?_
        refine g_top (y := nI t) h18 ?_
        refine g_bipush F (v := 8) dL_tick_50 (by decide +kernel) ?_
        refine g_irem F dL_tick_52 (by decide) ?_
        refine g_top (pk_rem (a := t) (d := 8) (by omega) (by omega) (by omega)) ?_
        refine g_iadd F dL_tick_53 ?_
        refine g_top (nI_add ((8 * kq)) ((t % 8))) ?_
        refine g_iload F dL_tick_54 1 rfl ?_
        refine g_aload_n F dL_tick_56 rfl 4 rfl ?_
        refine g_bipush F (v := 18) dL_tick_57 (by decide +kernel) ?_
        refine g_iaload (r := 711) F a711 (18) rfl (by omega) (by decide) dL_tick_59 ?_
        refine g_top (y := nI t) h18 ?_
        refine g_aload_n F dL_tick_60 rfl 2 rfl ?_
        refine g_callS F (kL_shade l (f := f) (k := kq) (t := t) hC hS hkq ht) (va_cwS 3 F.1.2.2.2.2 gL_tick_L_shade rfl rfl rfl (by decide +kernel) ⟨Nat.le_of_ble_eq_true rfl, Nat.le_of_ble_eq_true rfl⟩) rfl rfl rfl (Nat.le_of_ble_eq_true rfl) dL_tick_61 ⟨Nat.le_of_ble_eq_true rfl, Nat.le_of_ble_eq_true rfl⟩ (g_det ?_)
        refine g_iastore (r := 712) F a712 (((8 * kq) + (t % 8))) rfl (by omega) (by decide) dL_tick_64 ?_
        refine g_mem (lwS_712 _ _ _ _ _ _ _ _ _) ?_
        rw [rKb_s]
        refine g_iconst F (v := 0) dL_tick_65 (by decide) ?_
        refine g_istore F (lv2 := [(8, _), (7, _), (6, _), (0, _), (1, _), (2, _), (3, _), (4, _), (5, _)]) dL_tick_66 (by decide) rfl ?_
        have LQ : ∀ (nyq yq : Nat), yq + nyq = 6 → G pp l ee rmL_tick ss mm aa bb me c9 QQ DD ca B Tl AA 12 0 0 ((lwM M c g1 q (rKb r f t (kq + 1)) (mKb m f t (6 * kq + yq)) n)) 68 [(8, .int (nI yq)), (7, .int (RDF f t kq 3)), (6, .int (nI kq)), (0, .ref (B + 709)), (1, .ref (B + 710)), (2, .ref (B + 711)), (3, .ref (B + 712)), (4, .ref (B + 713)), (5, .ref (B + 714))] [] := by
          intro nyq
          induction nyq with
          | zero =>
            intro yq hnyq
            refine g_iload F dL_tick_68 0 rfl ?_
            refine g_bipush F (v := 6) dL_tick_70 (by decide +kernel) ?_
            refine g_icmpN_ge F 182 dL_tick_72 (by decide) (yq) (6) rfl rfl (by omega) (by omega) (fun hcyq => ?_) (fun hcyq => ?_)
            · obtain rfl : yq = 6 := by omega
              refine g_iinc F (lv2 := [(6, _), (8, _), (7, _), (0, _), (1, _), (2, _), (3, _), (4, _), (5, _)]) dL_tick_182 2 rfl (nI_1 _) (by decide) rfl ?_
              refine g_goto F 23 dL_tick_185 (by decide) ?_
              refine g_lv (lv2 := [(6, _), (0, _), (1, _), (2, _), (3, _), (4, _), (5, _)]) [0, 3, 4, 5, 6, 7, 8] rfl ?_
              exact g_is (by rw [show 6 * (kq + 1) = 6 * kq + 6 by omega]) rfl (ihkq (kq + 1) (by omega))
            · exact absurd hcyq (by omega)
          | succ nyq ihyq =>
            intro yq hnyq
            have hyq : yq < 6 := by omega
            obtain ⟨u9, c9, l9, hu9, hc9, hl9q, eu9, ec9, el9, ep9⟩ := pk_split (rgR f kq) (nI yq) (t := t) (by omega)
            have em9 : mKb m f t (6 * kq + yq) (6 * kq + yq) = nI (u9 + 128 * c9 + 16384 * l9) := by rw [mKb_at, hM9 kq hkq yq hyq, ep9]
            refine g_iload F dL_tick_68 0 rfl ?_
            refine g_bipush F (v := 6) dL_tick_70 (by decide +kernel) ?_
            refine g_icmpN_ge F 182 dL_tick_72 (by decide) (yq) (6) rfl rfl (by omega) (by omega) (fun hcyq => ?_) (fun hcyq => ?_)
            · exact absurd hcyq (by omega)
            · refine g_aload F dL_tick_75 7 rfl ?_
              refine g_bipush F (v := 6) dL_tick_77 (by decide +kernel) ?_
              refine g_iload F dL_tick_79 2 rfl ?_
              refine g_imul F dL_tick_81 ?_
              refine g_top (pk_mul (6) (kq)) ?_
              refine g_iload F dL_tick_82 0 rfl ?_
              refine g_iadd F dL_tick_84 ?_
              refine g_top (nI_add ((6 * kq)) (yq)) ?_
              refine g_iaload (r := 713) F a713 (((6 * kq) + yq)) rfl (by omega) (by decide) dL_tick_85 ?_
              refine g_top (y := nI (u9 + 128 * c9 + 16384 * l9)) em9 ?_
              refine g_istore F (lv2 := [(9, _), (8, _), (7, _), (6, _), (0, _), (1, _), (2, _), (3, _), (4, _), (5, _)]) dL_tick_86 (by decide) rfl ?_
              refine g_iload F dL_tick_88 2 rfl ?_
              refine g_iload F dL_tick_90 1 rfl ?_
              refine g_icmp_lt F 105 dL_tick_92 (by decide) (fun h1 => ?_) (fun h1 => ?_)
              · refine g_iconst F (v := 0) dL_tick_105 (by decide) ?_
                refine g_istore F (lv2 := [(10, _), (9, _), (8, _), (7, _), (6, _), (0, _), (1, _), (2, _), (3, _), (4, _), (5, _)]) dL_tick_106 (by decide) rfl ?_
                refine g_iload F dL_tick_108 1 rfl ?_
                refine g_bipush F (v := 14) dL_tick_110 (by decide +kernel) ?_
                refine g_ishr F dL_tick_112 ?_
                refine g_top (y := nI l9) (un_l hu9 hc9 hl9q) ?_
                refine g_iload F dL_tick_113 0 rfl ?_
                refine g_icmpN_le F 126 dL_tick_115 (by decide) (l9) (0) rfl rfl (by omega) (by omega) (fun h2 => ?_) (fun h2 => ?_)
                · refine g_iload F dL_tick_126 0 rfl ?_
                  refine g_istore F (lv2 := [(11, _), (10, _), (9, _), (8, _), (7, _), (6, _), (0, _), (1, _), (2, _), (3, _), (4, _), (5, _)]) dL_tick_128 (by decide) rfl ?_
                  refine g_aload F dL_tick_130 10 rfl ?_
                  refine g_bipush F (v := 6) dL_tick_132 (by decide +kernel) ?_
                  refine g_iload F dL_tick_134 5 rfl ?_
                  refine g_imul F dL_tick_136 ?_
                  refine g_top (pk_mul (6) (kq)) ?_
                  refine g_iload F dL_tick_137 3 rfl ?_
                  refine g_iadd F dL_tick_139 ?_
                  refine g_top (nI_add ((6 * kq)) (yq)) ?_
                  refine g_iload F dL_tick_140 1 rfl ?_
                  refine g_sipush F (v := 128) dL_tick_142 (by decide +kernel) ?_
                  refine g_iload F dL_tick_145 2 rfl ?_
                  refine g_bipush F (v := 7) dL_tick_147 (by decide +kernel) ?_
                  refine g_ishr F dL_tick_149 ?_
                  refine g_bipush F (v := 127) dL_tick_150 (by decide +kernel) ?_
                  refine g_iand F dL_tick_152 ?_
                  refine g_top (y := nI c9) (un_k hu9 hc9 hl9q) ?_
                  refine g_iload F dL_tick_153 4 rfl ?_
                  refine g_iload F dL_tick_155 3 rfl ?_
                  refine g_icmp_lt F 164 dL_tick_157 (by decide) (fun h3 => ?_) (fun h3 => ?_)
                  · refine g_iconst F (v := 0) dL_tick_164 (by decide) ?_
                    refine g_iadd F dL_tick_165 ?_
                    refine g_top (nI_add (c9) (0)) ?_
                    refine g_imul F dL_tick_166 ?_
                    refine g_top (pk_mul (128) ((c9 + 0))) ?_
                    refine g_iadd F dL_tick_167 ?_
                    refine g_top (nI_add (0) ((128 * (c9 + 0)))) ?_
                    refine g_sipush F (v := 16384) dL_tick_168 (by decide +kernel) ?_
                    refine g_iload F dL_tick_171 0 rfl ?_
                    refine g_imul F dL_tick_173 ?_
                    refine g_top (pk_mul (16384) (0)) ?_
                    refine g_iadd F dL_tick_174 ?_
                    refine g_top (nI_add ((0 + (128 * (c9 + 0)))) ((16384 * 0))) ?_
                    refine g_iastore (r := 713) F a713 (((6 * kq) + yq)) rfl (by omega) (by decide) dL_tick_175 ?_
                    refine g_mem (lwS_713 _ _ _ _ _ _ _ _ _) ?_
                    rw [mKb_s hyq (by first | exact absurd h3 h1 | exact absurd h1 h3 | exact pq_lt h1 (by omega) | exact pq_ge h1 (by omega))]
                    refine g_iinc F (lv2 := [(8, _), (11, _), (10, _), (9, _), (7, _), (6, _), (0, _), (1, _), (2, _), (3, _), (4, _), (5, _)]) dL_tick_176 3 rfl (nI_1 _) (by decide) rfl ?_
                    refine g_goto F 68 dL_tick_179 (by decide) ?_
                    refine g_lv (lv2 := [(8, _), (7, _), (6, _), (0, _), (1, _), (2, _), (3, _), (4, _), (5, _)]) [0, 4, 5, 6, 7, 8, 9, 10, 11] rfl ?_
                    exact g_is rfl rfl (ihyq (yq + 1) (by omega))
                  · refine g_iconst F (v := 1) dL_tick_160 (by decide) ?_
                    refine g_goto F 165 dL_tick_161 (by decide) ?_
                    refine g_iadd F dL_tick_165 ?_
                    refine g_top (nI_add (c9) (1)) ?_
                    refine g_imul F dL_tick_166 ?_
                    refine g_top (pk_mul (128) ((c9 + 1))) ?_
                    refine g_iadd F dL_tick_167 ?_
                    refine g_top (nI_add (0) ((128 * (c9 + 1)))) ?_
                    refine g_sipush F (v := 16384) dL_tick_168 (by decide +kernel) ?_
                    refine g_iload F dL_tick_171 0 rfl ?_
                    refine g_imul F dL_tick_173 ?_
                    refine g_top (pk_mul (16384) (0)) ?_
                    refine g_iadd F dL_tick_174 ?_
                    refine g_top (nI_add ((0 + (128 * (c9 + 1)))) ((16384 * 0))) ?_
                    refine g_iastore (r := 713) F a713 (((6 * kq) + yq)) rfl (by omega) (by decide) dL_tick_175 ?_
                    refine g_mem (lwS_713 _ _ _ _ _ _ _ _ _) ?_
                    rw [mKb_s hyq (by first | exact absurd h3 h1 | exact absurd h1 h3 | exact pq_lt h1 (by omega) | exact pq_ge h1 (by omega))]
                    refine g_iinc F (lv2 := [(8, _), (11, _), (10, _), (9, _), (7, _), (6, _), (0, _), (1, _), (2, _), (3, _), (4, _), (5, _)]) dL_tick_176 3 rfl (nI_1 _) (by decide) rfl ?_
                    refine g_goto F 68 dL_tick_179 (by decide) ?_
                    refine g_lv (lv2 := [(8, _), (7, _), (6, _), (0, _), (1, _), (2, _), (3, _), (4, _), (5, _)]) [0, 4, 5, 6, 7, 8, 9, 10, 11] rfl ?_
                    exact g_is rfl rfl (ihyq (yq + 1) (by omega))
                · refine g_iload F dL_tick_118 1 rfl ?_
                  refine g_bipush F (v := 14) dL_tick_120 (by decide +kernel) ?_
                  refine g_ishr F dL_tick_122 ?_
                  refine g_top (y := nI l9) (un_l hu9 hc9 hl9q) ?_
                  refine g_goto F 128 dL_tick_123 (by decide) ?_
                  refine g_istore F (lv2 := [(11, _), (10, _), (9, _), (8, _), (7, _), (6, _), (0, _), (1, _), (2, _), (3, _), (4, _), (5, _)]) dL_tick_128 (by decide) rfl ?_
                  refine g_aload F dL_tick_130 10 rfl ?_
                  refine g_bipush F (v := 6) dL_tick_132 (by decide +kernel) ?_
                  refine g_iload F dL_tick_134 5 rfl ?_
                  refine g_imul F dL_tick_136 ?_
                  refine g_top (pk_mul (6) (kq)) ?_
                  refine g_iload F dL_tick_137 3 rfl ?_
                  refine g_iadd F dL_tick_139 ?_
                  refine g_top (nI_add ((6 * kq)) (yq)) ?_
                  refine g_iload F dL_tick_140 1 rfl ?_
                  refine g_sipush F (v := 128) dL_tick_142 (by decide +kernel) ?_
                  refine g_iload F dL_tick_145 2 rfl ?_
                  refine g_bipush F (v := 7) dL_tick_147 (by decide +kernel) ?_
                  refine g_ishr F dL_tick_149 ?_
                  refine g_bipush F (v := 127) dL_tick_150 (by decide +kernel) ?_
                  refine g_iand F dL_tick_152 ?_
                  refine g_top (y := nI c9) (un_k hu9 hc9 hl9q) ?_
                  refine g_iload F dL_tick_153 4 rfl ?_
                  refine g_iload F dL_tick_155 3 rfl ?_
                  refine g_icmp_lt F 164 dL_tick_157 (by decide) (fun h3 => ?_) (fun h3 => ?_)
                  · refine g_iconst F (v := 0) dL_tick_164 (by decide) ?_
                    refine g_iadd F dL_tick_165 ?_
                    refine g_top (nI_add (c9) (0)) ?_
                    refine g_imul F dL_tick_166 ?_
                    refine g_top (pk_mul (128) ((c9 + 0))) ?_
                    refine g_iadd F dL_tick_167 ?_
                    refine g_top (nI_add (0) ((128 * (c9 + 0)))) ?_
                    refine g_sipush F (v := 16384) dL_tick_168 (by decide +kernel) ?_
                    refine g_iload F dL_tick_171 0 rfl ?_
                    refine g_imul F dL_tick_173 ?_
                    refine g_top (pk_mul (16384) (l9)) ?_
                    refine g_iadd F dL_tick_174 ?_
                    refine g_top (nI_add ((0 + (128 * (c9 + 0)))) ((16384 * l9))) ?_
                    refine g_iastore (r := 713) F a713 (((6 * kq) + yq)) rfl (by omega) (by decide) dL_tick_175 ?_
                    refine g_mem (lwS_713 _ _ _ _ _ _ _ _ _) ?_
                    rw [mKb_s hyq (by first | exact absurd h3 h1 | exact absurd h1 h3 | exact pq_lt h1 (by omega) | exact pq_ge h1 (by omega))]
                    refine g_iinc F (lv2 := [(8, _), (11, _), (10, _), (9, _), (7, _), (6, _), (0, _), (1, _), (2, _), (3, _), (4, _), (5, _)]) dL_tick_176 3 rfl (nI_1 _) (by decide) rfl ?_
                    refine g_goto F 68 dL_tick_179 (by decide) ?_
                    refine g_lv (lv2 := [(8, _), (7, _), (6, _), (0, _), (1, _), (2, _), (3, _), (4, _), (5, _)]) [0, 4, 5, 6, 7, 8, 9, 10, 11] rfl ?_
                    exact g_is rfl rfl (ihyq (yq + 1) (by omega))
                  · refine g_iconst F (v := 1) dL_tick_160 (by decide) ?_
                    refine g_goto F 165 dL_tick_161 (by decide) ?_
                    refine g_iadd F dL_tick_165 ?_
                    refine g_top (nI_add (c9) (1)) ?_
                    refine g_imul F dL_tick_166 ?_
                    refine g_top (pk_mul (128) ((c9 + 1))) ?_
                    refine g_iadd F dL_tick_167 ?_
                    refine g_top (nI_add (0) ((128 * (c9 + 1)))) ?_
                    refine g_sipush F (v := 16384) dL_tick_168 (by decide +kernel) ?_
                    refine g_iload F dL_tick_171 0 rfl ?_
                    refine g_imul F dL_tick_173 ?_
                    refine g_top (pk_mul (16384) (l9)) ?_
                    refine g_iadd F dL_tick_174 ?_
                    refine g_top (nI_add ((0 + (128 * (c9 + 1)))) ((16384 * l9))) ?_
                    refine g_iastore (r := 713) F a713 (((6 * kq) + yq)) rfl (by omega) (by decide) dL_tick_175 ?_
                    refine g_mem (lwS_713 _ _ _ _ _ _ _ _ _) ?_
                    rw [mKb_s hyq (by first | exact absurd h3 h1 | exact absurd h1 h3 | exact pq_lt h1 (by omega) | exact pq_ge h1 (by omega))]
                    refine g_iinc F (lv2 := [(8, _), (11, _), (10, _), (9, _), (7, _), (6, _), (0, _), (1, _), (2, _), (3, _), (4, _), (5, _)]) dL_tick_176 3 rfl (nI_1 _) (by decide) rfl ?_
                    refine g_goto F 68 dL_tick_179 (by decide) ?_
                    refine g_lv (lv2 := [(8, _), (7, _), (6, _), (0, _), (1, _), (2, _), (3, _), (4, _), (5, _)]) [0, 4, 5, 6, 7, 8, 9, 10, 11] rfl ?_
                    exact g_is rfl rfl (ihyq (yq + 1) (by omega))
              · refine g_iload F dL_tick_95 0 rfl ?_
                refine g_bipush F (v := 127) dL_tick_97 (by decide +kernel) ?_
                refine g_iand F dL_tick_99 ?_
                refine g_top (y := nI u9) (un_u hu9 hc9 hl9q) ?_
                refine g_iconst F (v := 1) dL_tick_100 (by decide) ?_
                refine g_iadd F dL_tick_101 ?_
                refine g_top (nI_add (u9) (1)) ?_
                refine g_goto F 106 dL_tick_102 (by decide) ?_
                refine g_istore F (lv2 := [(10, _), (9, _), (8, _), (7, _), (6, _), (0, _), (1, _), (2, _), (3, _), (4, _), (5, _)]) dL_tick_106 (by decide) rfl ?_
                refine g_iload F dL_tick_108 1 rfl ?_
                refine g_bipush F (v := 14) dL_tick_110 (by decide +kernel) ?_
                refine g_ishr F dL_tick_112 ?_
                refine g_top (y := nI l9) (un_l hu9 hc9 hl9q) ?_
                refine g_iload F dL_tick_113 0 rfl ?_
                refine g_icmpN_le F 126 dL_tick_115 (by decide) (l9) ((u9 + 1)) rfl rfl (by omega) (by omega) (fun h2 => ?_) (fun h2 => ?_)
                · refine g_iload F dL_tick_126 0 rfl ?_
                  refine g_istore F (lv2 := [(11, _), (10, _), (9, _), (8, _), (7, _), (6, _), (0, _), (1, _), (2, _), (3, _), (4, _), (5, _)]) dL_tick_128 (by decide) rfl ?_
                  refine g_aload F dL_tick_130 10 rfl ?_
                  refine g_bipush F (v := 6) dL_tick_132 (by decide +kernel) ?_
                  refine g_iload F dL_tick_134 5 rfl ?_
                  refine g_imul F dL_tick_136 ?_
                  refine g_top (pk_mul (6) (kq)) ?_
                  refine g_iload F dL_tick_137 3 rfl ?_
                  refine g_iadd F dL_tick_139 ?_
                  refine g_top (nI_add ((6 * kq)) (yq)) ?_
                  refine g_iload F dL_tick_140 1 rfl ?_
                  refine g_sipush F (v := 128) dL_tick_142 (by decide +kernel) ?_
                  refine g_iload F dL_tick_145 2 rfl ?_
                  refine g_bipush F (v := 7) dL_tick_147 (by decide +kernel) ?_
                  refine g_ishr F dL_tick_149 ?_
                  refine g_bipush F (v := 127) dL_tick_150 (by decide +kernel) ?_
                  refine g_iand F dL_tick_152 ?_
                  refine g_top (y := nI c9) (un_k hu9 hc9 hl9q) ?_
                  refine g_iload F dL_tick_153 4 rfl ?_
                  refine g_iload F dL_tick_155 3 rfl ?_
                  refine g_icmp_lt F 164 dL_tick_157 (by decide) (fun h3 => ?_) (fun h3 => ?_)
                  · refine g_iconst F (v := 0) dL_tick_164 (by decide) ?_
                    refine g_iadd F dL_tick_165 ?_
                    refine g_top (nI_add (c9) (0)) ?_
                    refine g_imul F dL_tick_166 ?_
                    refine g_top (pk_mul (128) ((c9 + 0))) ?_
                    refine g_iadd F dL_tick_167 ?_
                    refine g_top (nI_add ((u9 + 1)) ((128 * (c9 + 0)))) ?_
                    refine g_sipush F (v := 16384) dL_tick_168 (by decide +kernel) ?_
                    refine g_iload F dL_tick_171 0 rfl ?_
                    refine g_imul F dL_tick_173 ?_
                    refine g_top (pk_mul (16384) ((u9 + 1))) ?_
                    refine g_iadd F dL_tick_174 ?_
                    refine g_top (nI_add (((u9 + 1) + (128 * (c9 + 0)))) ((16384 * (u9 + 1)))) ?_
                    refine g_iastore (r := 713) F a713 (((6 * kq) + yq)) rfl (by omega) (by decide) dL_tick_175 ?_
                    refine g_mem (lwS_713 _ _ _ _ _ _ _ _ _) ?_
                    rw [mKb_s hyq (by first | exact absurd h3 h1 | exact absurd h1 h3 | exact pq_lt h1 (by omega) | exact pq_ge h1 (by omega))]
                    refine g_iinc F (lv2 := [(8, _), (11, _), (10, _), (9, _), (7, _), (6, _), (0, _), (1, _), (2, _), (3, _), (4, _), (5, _)]) dL_tick_176 3 rfl (nI_1 _) (by decide) rfl ?_
                    refine g_goto F 68 dL_tick_179 (by decide) ?_
                    refine g_lv (lv2 := [(8, _), (7, _), (6, _), (0, _), (1, _), (2, _), (3, _), (4, _), (5, _)]) [0, 4, 5, 6, 7, 8, 9, 10, 11] rfl ?_
                    exact g_is rfl rfl (ihyq (yq + 1) (by omega))
                  · refine g_iconst F (v := 1) dL_tick_160 (by decide) ?_
                    refine g_goto F 165 dL_tick_161 (by decide) ?_
                    refine g_iadd F dL_tick_165 ?_
                    refine g_top (nI_add (c9) (1)) ?_
                    refine g_imul F dL_tick_166 ?_
                    refine g_top (pk_mul (128) ((c9 + 1))) ?_
                    refine g_iadd F dL_tick_167 ?_
                    refine g_top (nI_add ((u9 + 1)) ((128 * (c9 + 1)))) ?_
                    refine g_sipush F (v := 16384) dL_tick_168 (by decide +kernel) ?_
                    refine g_iload F dL_tick_171 0 rfl ?_
                    refine g_imul F dL_tick_173 ?_
                    refine g_top (pk_mul (16384) ((u9 + 1))) ?_
                    refine g_iadd F dL_tick_174 ?_
                    refine g_top (nI_add (((u9 + 1) + (128 * (c9 + 1)))) ((16384 * (u9 + 1)))) ?_
                    refine g_iastore (r := 713) F a713 (((6 * kq) + yq)) rfl (by omega) (by decide) dL_tick_175 ?_
                    refine g_mem (lwS_713 _ _ _ _ _ _ _ _ _) ?_
                    rw [mKb_s hyq (by first | exact absurd h3 h1 | exact absurd h1 h3 | exact pq_lt h1 (by omega) | exact pq_ge h1 (by omega))]
                    refine g_iinc F (lv2 := [(8, _), (11, _), (10, _), (9, _), (7, _), (6, _), (0, _), (1, _), (2, _), (3, _), (4, _), (5, _)]) dL_tick_176 3 rfl (nI_1 _) (by decide) rfl ?_
                    refine g_goto F 68 dL_tick_179 (by decide) ?_
                    refine g_lv (lv2 := [(8, _), (7, _), (6, _), (0, _), (1, _), (2, _), (3, _), (4, _), (5, _)]) [0, 4, 5, 6, 7, 8, 9, 10, 11] rfl ?_
                    exact g_is rfl rfl (ihyq (yq + 1) (by omega))
                · refine g_iload F dL_tick_118 1 rfl ?_
                  refine g_bipush F (v := 14) dL_tick_120 (by decide +kernel) ?_
                  refine g_ishr F dL_tick_122 ?_
                  refine g_top (y := nI l9) (un_l hu9 hc9 hl9q) ?_
                  refine g_goto F 128 dL_tick_123 (by decide) ?_
                  refine g_istore F (lv2 := [(11, _), (10, _), (9, _), (8, _), (7, _), (6, _), (0, _), (1, _), (2, _), (3, _), (4, _), (5, _)]) dL_tick_128 (by decide) rfl ?_
                  refine g_aload F dL_tick_130 10 rfl ?_
                  refine g_bipush F (v := 6) dL_tick_132 (by decide +kernel) ?_
                  refine g_iload F dL_tick_134 5 rfl ?_
                  refine g_imul F dL_tick_136 ?_
                  refine g_top (pk_mul (6) (kq)) ?_
                  refine g_iload F dL_tick_137 3 rfl ?_
                  refine g_iadd F dL_tick_139 ?_
                  refine g_top (nI_add ((6 * kq)) (yq)) ?_
                  refine g_iload F dL_tick_140 1 rfl ?_
                  refine g_sipush F (v := 128) dL_tick_142 (by decide +kernel) ?_
                  refine g_iload F dL_tick_145 2 rfl ?_
                  refine g_bipush F (v := 7) dL_tick_147 (by decide +kernel) ?_
                  refine g_ishr F dL_tick_149 ?_
                  refine g_bipush F (v := 127) dL_tick_150 (by decide +kernel) ?_
                  refine g_iand F dL_tick_152 ?_
                  refine g_top (y := nI c9) (un_k hu9 hc9 hl9q) ?_
                  refine g_iload F dL_tick_153 4 rfl ?_
                  refine g_iload F dL_tick_155 3 rfl ?_
                  refine g_icmp_lt F 164 dL_tick_157 (by decide) (fun h3 => ?_) (fun h3 => ?_)
                  · refine g_iconst F (v := 0) dL_tick_164 (by decide) ?_
                    refine g_iadd F dL_tick_165 ?_
                    refine g_top (nI_add (c9) (0)) ?_
                    refine g_imul F dL_tick_166 ?_
                    refine g_top (pk_mul (128) ((c9 + 0))) ?_
                    refine g_iadd F dL_tick_167 ?_
                    refine g_top (nI_add ((u9 + 1)) ((128 * (c9 + 0)))) ?_
                    refine g_sipush F (v := 16384) dL_tick_168 (by decide +kernel) ?_
                    refine g_iload F dL_tick_171 0 rfl ?_
                    refine g_imul F dL_tick_173 ?_
                    refine g_top (pk_mul (16384) (l9)) ?_
                    refine g_iadd F dL_tick_174 ?_
                    refine g_top (nI_add (((u9 + 1) + (128 * (c9 + 0)))) ((16384 * l9))) ?_
                    refine g_iastore (r := 713) F a713 (((6 * kq) + yq)) rfl (by omega) (by decide) dL_tick_175 ?_
                    refine g_mem (lwS_713 _ _ _ _ _ _ _ _ _) ?_
                    rw [mKb_s hyq (by first | exact absurd h3 h1 | exact absurd h1 h3 | exact pq_lt h1 (by omega) | exact pq_ge h1 (by omega))]
                    refine g_iinc F (lv2 := [(8, _), (11, _), (10, _), (9, _), (7, _), (6, _), (0, _), (1, _), (2, _), (3, _), (4, _), (5, _)]) dL_tick_176 3 rfl (nI_1 _) (by decide) rfl ?_
                    refine g_goto F 68 dL_tick_179 (by decide) ?_
                    refine g_lv (lv2 := [(8, _), (7, _), (6, _), (0, _), (1, _), (2, _), (3, _), (4, _), (5, _)]) [0, 4, 5, 6, 7, 8, 9, 10, 11] rfl ?_
                    exact g_is rfl rfl (ihyq (yq + 1) (by omega))
                  · refine g_iconst F (v := 1) dL_tick_160 (by decide) ?_
                    refine g_goto F 165 dL_tick_161 (by decide) ?_
                    refine g_iadd F dL_tick_165 ?_
                    refine g_top (nI_add (c9) (1)) ?_
                    refine g_imul F dL_tick_166 ?_
                    refine g_top (pk_mul (128) ((c9 + 1))) ?_
                    refine g_iadd F dL_tick_167 ?_
                    refine g_top (nI_add ((u9 + 1)) ((128 * (c9 + 1)))) ?_
                    refine g_sipush F (v := 16384) dL_tick_168 (by decide +kernel) ?_
                    refine g_iload F dL_tick_171 0 rfl ?_
                    refine g_imul F dL_tick_173 ?_
                    refine g_top (pk_mul (16384) (l9)) ?_
                    refine g_iadd F dL_tick_174 ?_
                    refine g_top (nI_add (((u9 + 1) + (128 * (c9 + 1)))) ((16384 * l9))) ?_
                    refine g_iastore (r := 713) F a713 (((6 * kq) + yq)) rfl (by omega) (by decide) dL_tick_175 ?_
                    refine g_mem (lwS_713 _ _ _ _ _ _ _ _ _) ?_
                    rw [mKb_s hyq (by first | exact absurd h3 h1 | exact absurd h1 h3 | exact pq_lt h1 (by omega) | exact pq_ge h1 (by omega))]
                    refine g_iinc F (lv2 := [(8, _), (11, _), (10, _), (9, _), (7, _), (6, _), (0, _), (1, _), (2, _), (3, _), (4, _), (5, _)]) dL_tick_176 3 rfl (nI_1 _) (by decide) rfl ?_
                    refine g_goto F 68 dL_tick_179 (by decide) ?_
                    refine g_lv (lv2 := [(8, _), (7, _), (6, _), (0, _), (1, _), (2, _), (3, _), (4, _), (5, _)]) [0, 4, 5, 6, 7, 8, 9, 10, 11] rfl ?_
                    exact g_is rfl rfl (ihyq (yq + 1) (by omega))
        refine g_lv (lv2 := [(8, _), (7, _), (6, _), (0, _), (1, _), (2, _), (3, _), (4, _), (5, _)]) [0, 1, 2, 3, 4, 5, 6, 7, 8] rfl ?_
        exact g_is (by rw [show 6 * kq + 0 = 6 * kq by omega]) rfl (LQ (6 - 0) (0) (by omega))
  refine g_lv (lv2 := [(6, _), (0, _), (1, _), (2, _), (3, _), (4, _), (5, _)]) [0, 1, 2, 3, 4, 5, 6] rfl ?_
  exact g_is (by rw [rKb_0, show 6 * 0 = 0 from rfl, mKb_0]) rfl (LP (8 - 0) (0) (by omega))
