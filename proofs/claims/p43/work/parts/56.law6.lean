/-! is the class as the law has it -/
theorem FIN_n {f : Nat → Int32} {k e c : Nat} (h1 : f (92 + e) = nI c) (hc : c < 8) (hk : k < 8) (h : ¬ c = k) : finR f (nI k) (e + 1) = finR f (nI k) e + 0 := by
  show finR f (nI k) e + (if f (92 + e) = nI k ∧ f (132 + e) < 2 then f (112 + e) else 0) = _; rw [if_neg (fun z => h (nI_inj (by omega) (by omega) (h1.symm.trans z.1)))]
theorem FIN_m {f : Nat → Int32} {k e d : Nat} (h3 : f (132 + e) = nI d) (hd : d ≤ 2) (h : 2 ≤ d) : finR f (nI k) (e + 1) = finR f (nI k) e + 0 := by
  show finR f (nI k) e + (if f (92 + e) = nI k ∧ f (132 + e) < 2 then f (112 + e) else 0) = _; rw [if_neg (fun z => by have h4 := z.2; rw [h3] at h4; have := (nI_ltI (a := d) (b := 2) (by omega) (by omega)).mp h4; omega)]
theorem FIN_y {f : Nat → Int32} {k e c d s : Nat} (h1 : f (92 + e) = nI c) (h2 : f (112 + e) = nI (10 * s)) (h3 : f (132 + e) = nI d) (hc : c = k) (h : d < 2) : finR f (nI k) (e + 1) = finR f (nI k) e + nI (10 * s) := by
  show finR f (nI k) e + (if f (92 + e) = nI k ∧ f (132 + e) < 2 then f (112 + e) else 0) = _; rw [if_pos ⟨by rw [h1, hc], by rw [h3]; exact (nI_ltI (a := d) (b := 2) (by omega) (by omega)).mpr h⟩, h2]
theorem ST_0 {x : Int32} {d : Nat} (e3 : x = nI d) (hd : d ≤ 2) (h : 2 ≤ d) : (if x < 2 then (1 : Int32) else 0) = 0 := if_neg (fun z => by rw [e3] at z; have := (nI_ltI (a := d) (b := 2) (by omega) (by omega)).mp z; omega)
theorem ST_1 {x : Int32} {d : Nat} (e3 : x = nI d) (h : d < 2) : (if x < 2 then (1 : Int32) else 0) = 1 := if_pos (by rw [e3]; exact (nI_ltI (a := d) (b := 2) (by omega) (by omega)).mpr h)
theorem WA_0 {x y : Int32} {d w : Nat} (e3 : x = nI d) (e4 : y = nI w) (h : nI d ≤ 0) : (if 0 < x then (3 : Int32) else y) = nI w := by rw [e3, if_neg (Int32.not_lt.mpr h), e4]
theorem WA_1 {x y : Int32} {d : Nat} (e3 : x = nI d) (h : ¬ nI d ≤ 0) : (if 0 < x then (3 : Int32) else y) = 3 := by rw [e3, if_pos (Int32.not_le.mp h)]

abbrev rmL_isSo : Room := { frames := 9, cells := 800, slots := 4800, locals := 159 }
set_option maxHeartbeats 4000000 in
set_option maxRecDepth 100000 in
theorem kL_isSo (l : Launch) (hls : l.stackTraces = false) {M : Mm} {c g q r m w f : Nat → Int32} {t p n : Nat} (hv : RV f t p n) (hh : Rl (lwM M c g q r m w) 1 f t n) (z : RZ f t n) (ac : AC f n) (L : LAW c g q r m w f t n) : Ct l yL_isSo wsL_isSo rmL_isSo (fun B => [.ref (B + 0), .ref (B + 709), .ref (B + 710), .ref (B + 711), .ref (B + 713), .ref (B + 714)]) (lwM M c g q r m w) (fun _ v u => v = some (.int 1) ∧ u = lwM M c g q r m w) := by
  refine Ct.ofI (own := RL) (by decide +kernel) rfl rfl (fun B => Nat.le_of_ble_eq_true rfl) ?_
  intro pp ee ss mm aa bb me c9 DD ca B Tl AA QQ F K
  show G pp l ee rmL_isSo ss mm aa bb me c9 QQ DD ca B Tl AA 12 0 0 (lwM M c g q r m w) 0 [(0, .ref (B + 0)), (1, .ref (B + 709)), (2, .ref (B + 710)), (3, .ref (B + 711)), (4, .ref (B + 713)), (5, .ref (B + 714))] []
  obtain ⟨hC, hG, hK, hQ, hE, ⟨h15, h16, h17, h18f, h19⟩, hR, hM9, hN⟩ := id L
  have h74 := hv.2.1
  have ht := hv.1
  have hn20 := hv.2.2.2.2.2.1
  have h18 : q 18 = nI t := h18f.trans h74
  have h19n : q 19 = nI n := h19.trans hv.2.2.2.2.2.2.1
  have hS : SH f := z.2.1
  refine g_aload_n F dL_isSo_0 rfl 3 rfl ?_
  refine g_bipush F (v := 18) dL_isSo_1 (by decide +kernel) ?_
  refine g_iaload (r := 711) F a711 (18) rfl (by omega) (by decide) dL_isSo_3 ?_
  refine g_top (y := nI t) h18 ?_
  refine g_bipush F (v := 6) dL_isSo_4 (by decide +kernel) ?_
  refine g_irem F dL_isSo_6 (by decide) ?_
  refine g_top (pk_rem (a := t) (d := 6) (by omega) (by omega) (by omega)) ?_
  refine g_istore F (lv2 := [(6, _), (0, _), (1, _), (2, _), (3, _), (4, _), (5, _)]) dL_isSo_7 (by decide) rfl ?_
  refine g_aload_n F dL_isSo_9 rfl 1 rfl ?_
  refine g_callV F (A_time l hh) (cwV 0 F.1.2.2.2.2 gL_isSo_X8_time rfl rfl rfl (by decide +kernel) ⟨Nat.le_of_ble_eq_true rfl, Nat.le_of_ble_eq_true rfl⟩) r0 (by decide) rfl rfl rfl rfl (Nat.le_of_ble_eq_true rfl) dL_isSo_10 ⟨by show 0 + 0 ≤ 800; omega, by show 0 + 0 ≤ 4800; omega⟩ (g_det ?_)
  refine g_bipush F (v := 96) dL_isSo_13 (by decide +kernel) ?_
  refine g_aload_n F dL_isSo_15 rfl 4 rfl ?_
  refine g_bipush F (v := 17) dL_isSo_16 (by decide +kernel) ?_
  refine g_iaload (r := 711) F a711 (17) rfl (by omega) (by decide) dL_isSo_18 ?_
  refine g_top (y := f 73) h17 ?_
  refine g_imul F dL_isSo_19 ?_
  refine g_aload_n F dL_isSo_20 rfl 4 rfl ?_
  refine g_bipush F (v := 18) dL_isSo_21 (by decide +kernel) ?_
  refine g_iaload (r := 711) F a711 (18) rfl (by omega) (by decide) dL_isSo_23 ?_
  refine g_top (y := f 74) h18f ?_
  refine g_iadd F dL_isSo_24 ?_
  refine g_icmp_ne F 64 dL_isSo_25 (by decide) (fun h1 => ?_) (fun h1 => ?_)
  · exact absurd rfl h1
  · refine g_aload_n F dL_isSo_28 rfl 1 rfl ?_
    refine g_callV F (A_notices l hh) (cwV 0 F.1.2.2.2.2 gL_isSo_X8_notices rfl rfl rfl (by decide +kernel) ⟨Nat.le_of_ble_eq_true rfl, Nat.le_of_ble_eq_true rfl⟩) r0 (by decide) rfl rfl rfl rfl (Nat.le_of_ble_eq_true rfl) dL_isSo_29 ⟨by show 0 + 0 + 0 ≤ 800; omega, by show 0 + 0 + 0 ≤ 4800; omega⟩ (g_det ?_)
    refine g_aload_n F dL_isSo_32 rfl 4 rfl ?_
    refine g_bipush F (v := 19) dL_isSo_33 (by decide +kernel) ?_
    refine g_iaload (r := 711) F a711 (19) rfl (by omega) (by decide) dL_isSo_35 ?_
    refine g_top (y := f 75) h19 ?_
    refine g_icmp_ne F 64 dL_isSo_36 (by decide) (fun h1 => ?_) (fun h1 => ?_)
    · exact absurd rfl h1
    · refine g_aload_n F dL_isSo_39 rfl 1 rfl ?_
      refine g_aload_n F dL_isSo_40 rfl 4 rfl ?_
      refine g_bipush F (v := 18) dL_isSo_41 (by decide +kernel) ?_
      refine g_iaload (r := 711) F a711 (18) rfl (by omega) (by decide) dL_isSo_43 ?_
      refine g_top (y := nI t) h18 ?_
      refine g_iconst F (v := 4) dL_isSo_44 (by decide) ?_
      refine g_idiv F dL_isSo_45 (by decide) ?_
      refine g_top (pk_div (a := t) (d := 4) (by omega) (by omega) (by omega)) ?_
      refine g_callSW F (A_greyOf l hls hv hh z (y := (t / 4)) (by omega)) (vx_cwSW 2 F.1.2.2.2.2 gL_isSo_L_greyOf rfl rfl rfl (by decide +kernel) ⟨Nat.le_of_ble_eq_true rfl, Nat.le_of_ble_eq_true rfl⟩) rfl rfl rfl (Nat.le_of_ble_eq_true rfl) dL_isSo_46 ⟨by show 0 + 0 + 0 + 1 ≤ 800; omega, by show 0 + 0 + 0 + 6 ≤ 4800; omega⟩ (g_det ?_)
      refine g_aload_n F dL_isSo_49 rfl 3 rfl ?_
      refine g_aload_n F dL_isSo_50 rfl 4 rfl ?_
      refine g_bipush F (v := 18) dL_isSo_51 (by decide +kernel) ?_
      refine g_iaload (r := 711) F a711 (18) rfl (by omega) (by decide) dL_isSo_53 ?_
      refine g_top (y := nI t) h18 ?_
      refine g_iconst F (v := 4) dL_isSo_54 (by decide) ?_
      refine g_idiv F dL_isSo_55 (by decide) ?_
      refine g_top (pk_div (a := t) (d := 4) (by omega) (by omega) (by omega)) ?_
      refine g_iaload (r := 710) F a710 ((t / 4)) rfl (by omega) (by decide) dL_isSo_56 ?_
      refine g_top (y := f (32 + t / 4)) (hG _ (by omega)) ?_
      refine g_icmp_ne F 64 dL_isSo_57 (by decide) (fun h1 => ?_) (fun h1 => ?_)
      · exact absurd rfl h1
      · refine g_iconst F (v := 1) dL_isSo_60 (by decide) ?_
        refine g_goto F 65 dL_isSo_61 (by decide) ?_
        refine g_istore F (lv2 := [(7, _), (6, _), (0, _), (1, _), (2, _), (3, _), (4, _), (5, _)]) dL_isSo_65 (by decide) rfl ?_
        refine g_iconst F (v := 0) dL_isSo_67 (by decide) ?_
        refine g_istore F (lv2 := [(8, _), (7, _), (6, _), (0, _), (1, _), (2, _), (3, _), (4, _), (5, _)]) dL_isSo_68 (by decide) rfl ?_
        have LP : ∀ (nkq kq : Nat), kq + nkq = 8 → G pp l ee rmL_isSo ss mm aa bb me c9 QQ DD ca B Tl AA 12 (5 + 30 * kq) (30 + 180 * kq) ((lwM M c g q r m w)) 70 [(8, .int (nI kq)), (7, .int 1), (6, .int (nI (t % 6))), (0, .ref (B + 0)), (1, .ref (B + 709)), (2, .ref (B + 710)), (3, .ref (B + 711)), (4, .ref (B + 713)), (5, .ref (B + 714))] [] := by
          intro nkq
          induction nkq with
          | zero =>
            intro kq hnkq
            refine g_iload F dL_isSo_70 0 rfl ?_
            refine g_bipush F (v := 8) dL_isSo_72 (by decide +kernel) ?_
            refine g_icmpN_ge F 292 dL_isSo_74 (by decide) (kq) (8) rfl rfl (by omega) (by omega) (fun hckq => ?_) (fun hckq => ?_)
            · obtain rfl : kq = 8 := by omega
              refine g_iconst F (v := 0) dL_isSo_292 (by decide) ?_
              refine g_istore F (lv2 := [(8, _), (7, _), (6, _), (0, _), (1, _), (2, _), (3, _), (4, _), (5, _)]) dL_isSo_293 (by decide) rfl ?_
              have LE : ∀ (neq eq : Nat), eq + neq = 3 → G pp l ee rmL_isSo ss mm aa bb me c9 QQ DD ca B Tl AA 12 (250 + 20 * eq) (1500 + 120 * eq) ((lwM M c g q r m w)) 295 [(8, .int (nI eq)), (7, .int 1), (6, .int (nI (t % 6))), (0, .ref (B + 0)), (1, .ref (B + 709)), (2, .ref (B + 710)), (3, .ref (B + 711)), (4, .ref (B + 713)), (5, .ref (B + 714))] [] := by
                intro neq
                induction neq with
                | zero =>
                  intro eq hneq
                  refine g_iload F dL_isSo_295 0 rfl ?_
                  refine g_iconst F (v := 3) dL_isSo_297 (by decide) ?_
                  refine g_icmpN_ge F 387 dL_isSo_298 (by decide) (eq) (3) rfl rfl (by omega) (by omega) (fun hceq => ?_) (fun hceq => ?_)
                  · obtain rfl : eq = 3 := by omega
                    refine g_iconst F (v := 0) dL_isSo_387 (by decide) ?_
                    refine g_istore F (lv2 := [(8, _), (7, _), (6, _), (0, _), (1, _), (2, _), (3, _), (4, _), (5, _)]) dL_isSo_388 (by decide) rfl ?_
                    have LN9 : ∀ (nnq nq : Nat), nq + nnq = n → G pp l ee rmL_isSo ss mm aa bb me c9 QQ DD ca B Tl AA 12 (320 + 20 * nq) (1920 + 120 * nq) ((lwM M c g q r m w)) 390 [(8, .int (nI nq)), (7, .int 1), (6, .int (nI (t % 6))), (0, .ref (B + 0)), (1, .ref (B + 709)), (2, .ref (B + 710)), (3, .ref (B + 711)), (4, .ref (B + 713)), (5, .ref (B + 714))] [] := by
                      intro nnq
                      induction nnq with
                      | zero =>
                        intro nq hnnq
                        refine g_iload F dL_isSo_390 0 rfl ?_
                        refine g_aload_n F dL_isSo_392 rfl 6 rfl ?_
                        refine g_bipush F (v := 19) dL_isSo_393 (by decide +kernel) ?_
                        refine g_iaload (r := 711) F a711 (19) rfl (by omega) (by decide) dL_isSo_395 ?_
                        refine g_top (y := nI n) h19n ?_
                        refine g_icmpN_ge F 514 dL_isSo_396 (by decide) (nq) (n) rfl rfl (by omega) (by omega) (fun hcnq => ?_) (fun hcnq => ?_)
                        · obtain rfl : n = nq := by omega
                          refine g_iload F dL_isSo_514 1 rfl ?_
                          refine g_widen (k := 800) (n := 4800) (by show (320 + 20 * n) ≤ 800; omega) (by show (1920 + 120 * n) ≤ 4800; omega) ?_
                          exact K _ _ _ _ dL_isSo_516 (bit_z bit_1).1 ⟨rfl, rfl⟩
                        · exact absurd hcnq (by omega)
                      | succ nnq ihnq =>
                        intro nq hnnq
                        obtain ⟨c8, s8, d8, w8, hc8, hs8, hd8, hw8, en, e1, e2, e3, e4⟩ := hN nq (by omega)
                        refine g_iload F dL_isSo_390 0 rfl ?_
                        refine g_aload_n F dL_isSo_392 rfl 6 rfl ?_
                        refine g_bipush F (v := 19) dL_isSo_393 (by decide +kernel) ?_
                        refine g_iaload (r := 711) F a711 (19) rfl (by omega) (by decide) dL_isSo_395 ?_
                        refine g_top (y := nI n) h19n ?_
                        refine g_icmpN_ge F 514 dL_isSo_396 (by decide) (nq) (n) rfl rfl (by omega) (by omega) (fun hcnq => ?_) (fun hcnq => ?_)
                        · exact absurd hcnq (by omega)
                        · refine g_aload F dL_isSo_399 8 rfl ?_
                          refine g_iload F dL_isSo_401 0 rfl ?_
                          refine g_iaload (r := 714) F a714 (nq) rfl (by omega) (by decide) dL_isSo_403 ?_
                          refine g_top (y := nI (c8 + 8 * s8 + 256 * d8 + 1024 * w8)) en ?_
                          refine g_bipush F (v := 8) dL_isSo_404 (by decide +kernel) ?_
                          refine g_ishr F dL_isSo_406 ?_
                          refine g_iconst F (v := 3) dL_isSo_407 (by decide) ?_
                          refine g_iand F dL_isSo_408 ?_
                          refine g_top (y := nI d8) (un_d hc8 hs8 hd8 hw8) ?_
                          refine g_istore F (lv2 := [(9, _), (8, _), (7, _), (6, _), (0, _), (1, _), (2, _), (3, _), (4, _), (5, _)]) dL_isSo_409 (by decide) rfl ?_
                          refine g_iload F dL_isSo_411 2 rfl ?_
                          refine g_if_eq F 505 dL_isSo_413 (by decide) (fun h1 => ?_) (fun h1 => ?_)
                          · exact absurd h1 (by decide)
                          · refine g_aload_n F dL_isSo_416 rfl 4 rfl ?_
                            refine g_iload F dL_isSo_417 1 rfl ?_
                            refine g_callSW F (A_chimneyOf l hls hv hh z (e := nq) (by omega)) (vx_cwSW 2 F.1.2.2.2.2 gL_isSo_L_chimneyOf rfl rfl rfl (by decide +kernel) ⟨Nat.le_of_ble_eq_true rfl, Nat.le_of_ble_eq_true rfl⟩) rfl rfl rfl (Nat.le_of_ble_eq_true rfl) dL_isSo_419 ⟨by show (320 + 20 * nq) + 1 ≤ 800; omega, by show (1920 + 120 * nq) + 6 ≤ 4800; omega⟩ (g_det ?_)
                            refine g_top (y := nI c8) e1 ?_
                            refine g_aload F dL_isSo_422 9 rfl ?_
                            refine g_iload F dL_isSo_424 1 rfl ?_
                            refine g_iaload (r := 714) F a714 (nq) rfl (by omega) (by decide) dL_isSo_426 ?_
                            refine g_top (y := nI (c8 + 8 * s8 + 256 * d8 + 1024 * w8)) en ?_
                            refine g_bipush F (v := 7) dL_isSo_427 (by decide +kernel) ?_
                            refine g_iand F dL_isSo_429 ?_
                            refine g_top (y := nI c8) (un_c hc8 hs8 hd8 hw8) ?_
                            refine g_icmpN_ne F 505 dL_isSo_430 (by decide) (c8) (c8) rfl rfl (by omega) (by omega) (fun h1 => ?_) (fun h1 => ?_)
                            · exact absurd h1 (by omega)
                            · refine g_aload_n F dL_isSo_433 rfl 4 rfl ?_
                              refine g_iload F dL_isSo_434 1 rfl ?_
                              refine g_callSW F (A_fineOf l hls hv hh z (e := nq) (by omega)) (vx_cwSW 2 F.1.2.2.2.2 gL_isSo_L_fineOf rfl rfl rfl (by decide +kernel) ⟨Nat.le_of_ble_eq_true rfl, Nat.le_of_ble_eq_true rfl⟩) rfl rfl rfl (Nat.le_of_ble_eq_true rfl) dL_isSo_436 ⟨by show (320 + 20 * nq) + 1 + 1 ≤ 800; omega, by show (1920 + 120 * nq) + 6 + 6 ≤ 4800; omega⟩ (g_det ?_)
                              refine g_top (y := nI (10 * s8)) e2 ?_
                              refine g_bipush F (v := 10) dL_isSo_439 (by decide +kernel) ?_
                              refine g_aload F dL_isSo_441 9 rfl ?_
                              refine g_iload F dL_isSo_443 1 rfl ?_
                              refine g_iaload (r := 714) F a714 (nq) rfl (by omega) (by decide) dL_isSo_445 ?_
                              refine g_top (y := nI (c8 + 8 * s8 + 256 * d8 + 1024 * w8)) en ?_
                              refine g_iconst F (v := 3) dL_isSo_446 (by decide) ?_
                              refine g_ishr F dL_isSo_447 ?_
                              refine g_bipush F (v := 31) dL_isSo_448 (by decide +kernel) ?_
                              refine g_iand F dL_isSo_450 ?_
                              refine g_top (y := nI s8) (un_s hc8 hs8 hd8 hw8) ?_
                              refine g_imul F dL_isSo_451 ?_
                              refine g_top (pk_mul (10) (s8)) ?_
                              refine g_icmpN_ne F 505 dL_isSo_452 (by decide) ((10 * s8)) ((10 * s8)) rfl rfl (by omega) (by omega) (fun h1 => ?_) (fun h1 => ?_)
                              · exact absurd h1 (by omega)
                              · refine g_aload_n F dL_isSo_455 rfl 4 rfl ?_
                                refine g_iload F dL_isSo_456 1 rfl ?_
                                refine g_callSW F (A_stands l hls hv hh z (e := nq) (by omega)) (vx_cwSW 2 F.1.2.2.2.2 gL_isSo_L_stands rfl rfl rfl (by decide +kernel) ⟨Nat.le_of_ble_eq_true rfl, Nat.le_of_ble_eq_true rfl⟩) rfl rfl rfl (Nat.le_of_ble_eq_true rfl) dL_isSo_458 ⟨by show (320 + 20 * nq) + 1 + 1 + 1 ≤ 800; omega, by show (1920 + 120 * nq) + 6 + 6 + 6 ≤ 4800; omega⟩ (g_det ?_)
                                refine g_iload F dL_isSo_461 0 rfl ?_
                                refine g_iconst F (v := 2) dL_isSo_463 (by decide) ?_
                                refine g_icmpN_ge F 471 dL_isSo_464 (by decide) (d8) (2) rfl rfl (by omega) (by omega) (fun h3 => ?_) (fun h3 => ?_)
                                · refine g_iconst F (v := 0) dL_isSo_471 (by decide) ?_
                                  refine g_icmp_ne F 505 dL_isSo_472 (by decide) (fun h4 => ?_) (fun h4 => ?_)
                                  · exact absurd (by first | exact ST_0 e3 hd8 h3 | exact ST_1 e3 h3) h4
                                  · refine g_aload_n F dL_isSo_475 rfl 4 rfl ?_
                                    refine g_iload F dL_isSo_476 1 rfl ?_
                                    refine g_callSW F (A_wouldAppeal l hls hv hh z (e := nq) (by omega)) (vx_cwSW 2 F.1.2.2.2.2 gL_isSo_L_wouldAppeal rfl rfl rfl (by decide +kernel) ⟨Nat.le_of_ble_eq_true rfl, Nat.le_of_ble_eq_true rfl⟩) rfl rfl rfl (Nat.le_of_ble_eq_true rfl) dL_isSo_478 ⟨by show (320 + 20 * nq) + 1 + 1 + 1 + 1 ≤ 800; omega, by show (1920 + 120 * nq) + 6 + 6 + 6 + 6 ≤ 4800; omega⟩ (g_det ?_)
                                    refine g_iload F dL_isSo_481 0 rfl ?_
                                    refine g_if_le F 490 dL_isSo_483 (by decide) (fun h5 => ?_) (fun h5 => ?_)
                                    · refine g_aload F dL_isSo_490 9 rfl ?_
                                      refine g_iload F dL_isSo_492 1 rfl ?_
                                      refine g_iaload (r := 714) F a714 (nq) rfl (by omega) (by decide) dL_isSo_494 ?_
                                      refine g_top (y := nI (c8 + 8 * s8 + 256 * d8 + 1024 * w8)) en ?_
                                      refine g_bipush F (v := 10) dL_isSo_495 (by decide +kernel) ?_
                                      refine g_ishr F dL_isSo_497 ?_
                                      refine g_top (y := nI w8) (un_w hc8 hs8 hd8 hw8) ?_
                                      refine g_icmp_ne F 505 dL_isSo_498 (by decide) (fun h6 => ?_) (fun h6 => ?_)
                                      · exact absurd (by first | exact WA_0 e3 e4 h5 | exact WA_1 e3 h5) h6
                                      · refine g_iconst F (v := 1) dL_isSo_501 (by decide) ?_
                                        refine g_goto F 506 dL_isSo_502 (by decide) ?_
                                        refine g_istore F (lv2 := [(7, _), (9, _), (8, _), (6, _), (0, _), (1, _), (2, _), (3, _), (4, _), (5, _)]) dL_isSo_506 (by decide) rfl ?_
                                        refine g_iinc F (lv2 := [(8, _), (7, _), (9, _), (6, _), (0, _), (1, _), (2, _), (3, _), (4, _), (5, _)]) dL_isSo_508 2 rfl (nI_1 _) (by decide) rfl ?_
                                        refine g_goto F 390 dL_isSo_511 (by decide) ?_
                                        refine g_widen (k := (320 + 20 * (nq + 1))) (n := (1920 + 120 * (nq + 1))) (by show (320 + 20 * nq) + 1 + 1 + 1 + 1 ≤ (320 + 20 * (nq + 1)); omega) (by show (1920 + 120 * nq) + 6 + 6 + 6 + 6 ≤ (1920 + 120 * (nq + 1)); omega) ?_
                                        refine g_lv (lv2 := [(8, _), (7, _), (6, _), (0, _), (1, _), (2, _), (3, _), (4, _), (5, _)]) [0, 1, 3, 4, 5, 6, 7, 8, 9] rfl ?_
                                        exact g_is rfl rfl (ihnq (nq + 1) (by omega))
                                    · refine g_iconst F (v := 3) dL_isSo_486 (by decide) ?_
                                      refine g_goto F 498 dL_isSo_487 (by decide) ?_
                                      refine g_icmp_ne F 505 dL_isSo_498 (by decide) (fun h6 => ?_) (fun h6 => ?_)
                                      · exact absurd (by first | exact WA_0 e3 e4 h5 | exact WA_1 e3 h5) h6
                                      · refine g_iconst F (v := 1) dL_isSo_501 (by decide) ?_
                                        refine g_goto F 506 dL_isSo_502 (by decide) ?_
                                        refine g_istore F (lv2 := [(7, _), (9, _), (8, _), (6, _), (0, _), (1, _), (2, _), (3, _), (4, _), (5, _)]) dL_isSo_506 (by decide) rfl ?_
                                        refine g_iinc F (lv2 := [(8, _), (7, _), (9, _), (6, _), (0, _), (1, _), (2, _), (3, _), (4, _), (5, _)]) dL_isSo_508 2 rfl (nI_1 _) (by decide) rfl ?_
                                        refine g_goto F 390 dL_isSo_511 (by decide) ?_
                                        refine g_widen (k := (320 + 20 * (nq + 1))) (n := (1920 + 120 * (nq + 1))) (by show (320 + 20 * nq) + 1 + 1 + 1 + 1 ≤ (320 + 20 * (nq + 1)); omega) (by show (1920 + 120 * nq) + 6 + 6 + 6 + 6 ≤ (1920 + 120 * (nq + 1)); omega) ?_
                                        refine g_lv (lv2 := [(8, _), (7, _), (6, _), (0, _), (1, _), (2, _), (3, _), (4, _), (5, _)]) [0, 1, 3, 4, 5, 6, 7, 8, 9] rfl ?_
                                        exact g_is rfl rfl (ihnq (nq + 1) (by omega))
                                · refine g_iconst F (v := 1) dL_isSo_467 (by decide) ?_
                                  refine g_goto F 472 dL_isSo_468 (by decide) ?_
                                  refine g_icmp_ne F 505 dL_isSo_472 (by decide) (fun h4 => ?_) (fun h4 => ?_)
                                  · exact absurd (by first | exact ST_0 e3 hd8 h3 | exact ST_1 e3 h3) h4
                                  · refine g_aload_n F dL_isSo_475 rfl 4 rfl ?_
                                    refine g_iload F dL_isSo_476 1 rfl ?_
                                    refine g_callSW F (A_wouldAppeal l hls hv hh z (e := nq) (by omega)) (vx_cwSW 2 F.1.2.2.2.2 gL_isSo_L_wouldAppeal rfl rfl rfl (by decide +kernel) ⟨Nat.le_of_ble_eq_true rfl, Nat.le_of_ble_eq_true rfl⟩) rfl rfl rfl (Nat.le_of_ble_eq_true rfl) dL_isSo_478 ⟨by show (320 + 20 * nq) + 1 + 1 + 1 + 1 ≤ 800; omega, by show (1920 + 120 * nq) + 6 + 6 + 6 + 6 ≤ 4800; omega⟩ (g_det ?_)
                                    refine g_iload F dL_isSo_481 0 rfl ?_
                                    refine g_if_le F 490 dL_isSo_483 (by decide) (fun h5 => ?_) (fun h5 => ?_)
                                    · refine g_aload F dL_isSo_490 9 rfl ?_
                                      refine g_iload F dL_isSo_492 1 rfl ?_
                                      refine g_iaload (r := 714) F a714 (nq) rfl (by omega) (by decide) dL_isSo_494 ?_
                                      refine g_top (y := nI (c8 + 8 * s8 + 256 * d8 + 1024 * w8)) en ?_
                                      refine g_bipush F (v := 10) dL_isSo_495 (by decide +kernel) ?_
                                      refine g_ishr F dL_isSo_497 ?_
                                      refine g_top (y := nI w8) (un_w hc8 hs8 hd8 hw8) ?_
                                      refine g_icmp_ne F 505 dL_isSo_498 (by decide) (fun h6 => ?_) (fun h6 => ?_)
                                      · exact absurd (by first | exact WA_0 e3 e4 h5 | exact WA_1 e3 h5) h6
                                      · refine g_iconst F (v := 1) dL_isSo_501 (by decide) ?_
                                        refine g_goto F 506 dL_isSo_502 (by decide) ?_
                                        refine g_istore F (lv2 := [(7, _), (9, _), (8, _), (6, _), (0, _), (1, _), (2, _), (3, _), (4, _), (5, _)]) dL_isSo_506 (by decide) rfl ?_
                                        refine g_iinc F (lv2 := [(8, _), (7, _), (9, _), (6, _), (0, _), (1, _), (2, _), (3, _), (4, _), (5, _)]) dL_isSo_508 2 rfl (nI_1 _) (by decide) rfl ?_
                                        refine g_goto F 390 dL_isSo_511 (by decide) ?_
                                        refine g_widen (k := (320 + 20 * (nq + 1))) (n := (1920 + 120 * (nq + 1))) (by show (320 + 20 * nq) + 1 + 1 + 1 + 1 ≤ (320 + 20 * (nq + 1)); omega) (by show (1920 + 120 * nq) + 6 + 6 + 6 + 6 ≤ (1920 + 120 * (nq + 1)); omega) ?_
                                        refine g_lv (lv2 := [(8, _), (7, _), (6, _), (0, _), (1, _), (2, _), (3, _), (4, _), (5, _)]) [0, 1, 3, 4, 5, 6, 7, 8, 9] rfl ?_
                                        exact g_is rfl rfl (ihnq (nq + 1) (by omega))
                                    · refine g_iconst F (v := 3) dL_isSo_486 (by decide) ?_
                                      refine g_goto F 498 dL_isSo_487 (by decide) ?_
                                      refine g_icmp_ne F 505 dL_isSo_498 (by decide) (fun h6 => ?_) (fun h6 => ?_)
                                      · exact absurd (by first | exact WA_0 e3 e4 h5 | exact WA_1 e3 h5) h6
                                      · refine g_iconst F (v := 1) dL_isSo_501 (by decide) ?_
                                        refine g_goto F 506 dL_isSo_502 (by decide) ?_
                                        refine g_istore F (lv2 := [(7, _), (9, _), (8, _), (6, _), (0, _), (1, _), (2, _), (3, _), (4, _), (5, _)]) dL_isSo_506 (by decide) rfl ?_
                                        refine g_iinc F (lv2 := [(8, _), (7, _), (9, _), (6, _), (0, _), (1, _), (2, _), (3, _), (4, _), (5, _)]) dL_isSo_508 2 rfl (nI_1 _) (by decide) rfl ?_
                                        refine g_goto F 390 dL_isSo_511 (by decide) ?_
                                        refine g_widen (k := (320 + 20 * (nq + 1))) (n := (1920 + 120 * (nq + 1))) (by show (320 + 20 * nq) + 1 + 1 + 1 + 1 ≤ (320 + 20 * (nq + 1)); omega) (by show (1920 + 120 * nq) + 6 + 6 + 6 + 6 ≤ (1920 + 120 * (nq + 1)); omega) ?_
                                        refine g_lv (lv2 := [(8, _), (7, _), (6, _), (0, _), (1, _), (2, _), (3, _), (4, _), (5, _)]) [0, 1, 3, 4, 5, 6, 7, 8, 9] rfl ?_
                                        exact g_is rfl rfl (ihnq (nq + 1) (by omega))
                    refine g_widen (k := (320 + 20 * 0)) (n := (1920 + 120 * 0)) (by show (250 + 20 * 3) ≤ (320 + 20 * 0); omega) (by show (1500 + 120 * 3) ≤ (1920 + 120 * 0); omega) ?_
                    refine g_lv (lv2 := [(8, _), (7, _), (6, _), (0, _), (1, _), (2, _), (3, _), (4, _), (5, _)]) [0, 1, 2, 3, 4, 5, 6, 7, 8] rfl ?_
                    exact g_is rfl rfl (LN9 (n - 0) (0) (by omega))
                  · exact absurd hceq (by omega)
                | succ neq iheq =>
                  intro eq hneq
                  have heq : eq < 3 := by omega
                  refine g_iload F dL_isSo_295 0 rfl ?_
                  refine g_iconst F (v := 3) dL_isSo_297 (by decide) ?_
                  refine g_icmpN_ge F 387 dL_isSo_298 (by decide) (eq) (3) rfl rfl (by omega) (by omega) (fun hceq => ?_) (fun hceq => ?_)
                  · exact absurd hceq (by omega)
                  · refine g_iload F dL_isSo_301 1 rfl ?_
                    refine g_if_eq F 378 dL_isSo_303 (by decide) (fun h2 => ?_) (fun h2 => ?_)
                    · exact absurd h2 (by decide)
                    · refine g_aload_n F dL_isSo_306 rfl 3 rfl ?_
                      refine g_iload F dL_isSo_307 0 rfl ?_
                      refine g_callSW F (A_watchedBy l hls hv hh z (e := eq) (by omega)) (vx_cwSW 2 F.1.2.2.2.2 gL_isSo_L_watchedBy rfl rfl rfl (by decide +kernel) ⟨Nat.le_of_ble_eq_true rfl, Nat.le_of_ble_eq_true rfl⟩) rfl rfl rfl (Nat.le_of_ble_eq_true rfl) dL_isSo_309 ⟨by show (250 + 20 * eq) + 1 ≤ 800; omega, by show (1500 + 120 * eq) + 6 ≤ 4800; omega⟩ (g_det ?_)
                      refine g_aload_n F dL_isSo_312 rfl 6 rfl ?_
                      refine g_bipush F (v := 6) dL_isSo_313 (by decide +kernel) ?_
                      refine g_iload F dL_isSo_315 0 rfl ?_
                      refine g_iadd F dL_isSo_317 ?_
                      refine g_top (nI_add (6) (eq)) ?_
                      refine g_iaload (r := 711) F a711 ((6 + eq)) rfl (by omega) (by decide) dL_isSo_318 ?_
                      refine g_top (y := f (62 + eq)) (hQ eq heq).2.2 ?_
                      refine g_icmp_ne F 378 dL_isSo_319 (by decide) (fun h1 => ?_) (fun h1 => ?_)
                      · exact absurd rfl h1
                      · refine g_aload_n F dL_isSo_322 rfl 3 rfl ?_
                        refine g_iload F dL_isSo_323 0 rfl ?_
                        refine g_callSW F (A_tirednessOf l hls hv hh z (e := eq) (by omega)) (vx_cwSW 2 F.1.2.2.2.2 gL_isSo_L_tirednessOf rfl rfl rfl (by decide +kernel) ⟨Nat.le_of_ble_eq_true rfl, Nat.le_of_ble_eq_true rfl⟩) rfl rfl rfl (Nat.le_of_ble_eq_true rfl) dL_isSo_325 ⟨by show (250 + 20 * eq) + 1 + 1 ≤ 800; omega, by show (1500 + 120 * eq) + 6 + 6 ≤ 4800; omega⟩ (g_det ?_)
                        refine g_aload_n F dL_isSo_328 rfl 6 rfl ?_
                        refine g_iconst F (v := 3) dL_isSo_329 (by decide) ?_
                        refine g_iload F dL_isSo_330 0 rfl ?_
                        refine g_iadd F dL_isSo_332 ?_
                        refine g_top (nI_add (3) (eq)) ?_
                        refine g_iaload (r := 711) F a711 ((3 + eq)) rfl (by omega) (by decide) dL_isSo_333 ?_
                        refine g_top (y := f (59 + eq)) (hQ eq heq).2.1 ?_
                        refine g_icmp_ne F 378 dL_isSo_334 (by decide) (fun h1 => ?_) (fun h1 => ?_)
                        · exact absurd rfl h1
                        · refine g_aload_n F dL_isSo_337 rfl 3 rfl ?_
                          refine g_iload F dL_isSo_338 0 rfl ?_
                          refine g_callSW F (A_errorsOf l hls hv hh z (e := eq) (by omega)) (vx_cwSW 2 F.1.2.2.2.2 gL_isSo_L_errorsOf rfl rfl rfl (by decide +kernel) ⟨Nat.le_of_ble_eq_true rfl, Nat.le_of_ble_eq_true rfl⟩) rfl rfl rfl (Nat.le_of_ble_eq_true rfl) dL_isSo_340 ⟨by show (250 + 20 * eq) + 1 + 1 + 1 ≤ 800; omega, by show (1500 + 120 * eq) + 6 + 6 + 6 ≤ 4800; omega⟩ (g_det ?_)
                          refine g_aload_n F dL_isSo_343 rfl 6 rfl ?_
                          refine g_bipush F (v := 9) dL_isSo_344 (by decide +kernel) ?_
                          refine g_iload F dL_isSo_346 0 rfl ?_
                          refine g_iadd F dL_isSo_348 ?_
                          refine g_top (nI_add (9) (eq)) ?_
                          refine g_iaload (r := 711) F a711 ((9 + eq)) rfl (by omega) (by decide) dL_isSo_349 ?_
                          refine g_top (y := f (65 + eq)) (hE eq heq) ?_
                          refine g_icmp_ne F 378 dL_isSo_350 (by decide) (fun h1 => ?_) (fun h1 => ?_)
                          · exact absurd rfl h1
                          · refine g_aload_n F dL_isSo_353 rfl 3 rfl ?_
                            refine g_iload F dL_isSo_354 0 rfl ?_
                            refine g_iload F dL_isSo_356 2 rfl ?_
                            refine g_callSW F (A_wouldRead l hls hv hh z (e := eq) (c := (t % 6)) (by omega) (by omega)) (vx_cwSW 3 F.1.2.2.2.2 gL_isSo_L_wouldRead rfl rfl rfl (by decide +kernel) ⟨Nat.le_of_ble_eq_true rfl, Nat.le_of_ble_eq_true rfl⟩) rfl rfl rfl (Nat.le_of_ble_eq_true rfl) dL_isSo_358 ⟨by show (250 + 20 * eq) + 1 + 1 + 1 + 2 ≤ 800; omega, by show (1500 + 120 * eq) + 6 + 6 + 6 + 12 ≤ 4800; omega⟩ (g_det ?_)
                            refine g_iload F dL_isSo_361 0 rfl ?_
                            refine g_iload F dL_isSo_363 2 rfl ?_
                            refine g_aload_n F dL_isSo_365 rfl 4 rfl ?_
                            refine g_aload_n F dL_isSo_366 rfl 5 rfl ?_
                            refine g_aload_n F dL_isSo_367 rfl 6 rfl ?_
                            refine g_callS F (kL_sees l (f := f) (t := t) (e := eq) (k := t % 6) hC hS hG hQ h18 h74 heq (by omega) ht) (va_cwS 5 F.1.2.2.2.2 gL_isSo_L_sees rfl rfl rfl (by decide +kernel) ⟨Nat.le_of_ble_eq_true rfl, Nat.le_of_ble_eq_true rfl⟩) rfl rfl rfl (Nat.le_of_ble_eq_true rfl) dL_isSo_368 ⟨by show (250 + 20 * eq) + 1 + 1 + 1 + 2 + 0 ≤ 800; omega, by show (1500 + 120 * eq) + 6 + 6 + 6 + 12 + 0 ≤ 4800; omega⟩ (g_det ?_)
                            refine g_icmp_ne F 378 dL_isSo_371 (by decide) (fun h1 => ?_) (fun h1 => ?_)
                            · exact absurd rfl h1
                            · refine g_iconst F (v := 1) dL_isSo_374 (by decide) ?_
                              refine g_goto F 379 dL_isSo_375 (by decide) ?_
                              refine g_istore F (lv2 := [(7, _), (8, _), (6, _), (0, _), (1, _), (2, _), (3, _), (4, _), (5, _)]) dL_isSo_379 (by decide) rfl ?_
                              refine g_iinc F (lv2 := [(8, _), (7, _), (6, _), (0, _), (1, _), (2, _), (3, _), (4, _), (5, _)]) dL_isSo_381 1 rfl (nI_1 _) (by decide) rfl ?_
                              refine g_goto F 295 dL_isSo_384 (by decide) ?_
                              refine g_widen (k := (250 + 20 * (eq + 1))) (n := (1500 + 120 * (eq + 1))) (by show (250 + 20 * eq) + 1 + 1 + 1 + 2 + 0 ≤ (250 + 20 * (eq + 1)); omega) (by show (1500 + 120 * eq) + 6 + 6 + 6 + 12 + 0 ≤ (1500 + 120 * (eq + 1)); omega) ?_
                              refine g_lv (lv2 := [(8, _), (7, _), (6, _), (0, _), (1, _), (2, _), (3, _), (4, _), (5, _)]) [0, 1, 2, 3, 4, 5, 6, 7, 8] rfl ?_
                              exact g_is rfl rfl (iheq (eq + 1) (by omega))
              refine g_widen (k := (250 + 20 * 0)) (n := (1500 + 120 * 0)) (by show (5 + 30 * 8) ≤ (250 + 20 * 0); omega) (by show (30 + 180 * 8) ≤ (1500 + 120 * 0); omega) ?_
              refine g_lv (lv2 := [(8, _), (7, _), (6, _), (0, _), (1, _), (2, _), (3, _), (4, _), (5, _)]) [0, 1, 2, 3, 4, 5, 6, 7, 8] rfl ?_
              exact g_is rfl rfl (LE (3 - 0) (0) (by omega))
            · exact absurd hckq (by omega)
          | succ nkq ihkq =>
            intro kq hnkq
            have hkq : kq < 8 := by omega
            obtain ⟨u9, k9, l9, hu9, hk9, hl9q, eu9, ek9, el9, ep9⟩ := pk_split (rgR f kq) (nI (t % 6)) (t := t) (by omega)
            have em9 : m (6 * kq + t % 6) = nI (u9 + 128 * k9 + 16384 * l9) := (hM9 kq hkq (t % 6) (by omega)).trans (congrArg nI ep9)
            refine g_iload F dL_isSo_70 0 rfl ?_
            refine g_bipush F (v := 8) dL_isSo_72 (by decide +kernel) ?_
            refine g_icmpN_ge F 292 dL_isSo_74 (by decide) (kq) (8) rfl rfl (by omega) (by omega) (fun hckq => ?_) (fun hckq => ?_)
            · exact absurd hckq (by omega)
            · refine g_iconst F (v := 0) dL_isSo_77 (by decide) ?_
              refine g_istore F (lv2 := [(9, _), (8, _), (7, _), (6, _), (0, _), (1, _), (2, _), (3, _), (4, _), (5, _)]) dL_isSo_78 (by decide) rfl ?_
              refine g_aload F dL_isSo_80 8 rfl ?_
              refine g_bipush F (v := 6) dL_isSo_82 (by decide +kernel) ?_
              refine g_iload F dL_isSo_84 1 rfl ?_
              refine g_imul F dL_isSo_86 ?_
              refine g_top (pk_mul (6) (kq)) ?_
              refine g_iload F dL_isSo_87 3 rfl ?_
              refine g_iadd F dL_isSo_89 ?_
              refine g_top (nI_add ((6 * kq)) ((t % 6))) ?_
              refine g_iaload (r := 713) F a713 (((6 * kq) + (t % 6))) rfl (by omega) (by decide) dL_isSo_90 ?_
              refine g_top (y := nI (u9 + 128 * k9 + 16384 * l9)) em9 ?_
              refine g_istore F (lv2 := [(10, _), (9, _), (8, _), (7, _), (6, _), (0, _), (1, _), (2, _), (3, _), (4, _), (5, _)]) dL_isSo_91 (by decide) rfl ?_
              refine g_iconst F (v := 0) dL_isSo_93 (by decide) ?_
              refine g_istore F (lv2 := [(11, _), (10, _), (9, _), (8, _), (7, _), (6, _), (0, _), (1, _), (2, _), (3, _), (4, _), (5, _)]) dL_isSo_94 (by decide) rfl ?_
              have LF : ∀ (niq iq : Nat), iq + niq = n → G pp l ee rmL_isSo ss mm aa bb me c9 QQ DD ca B Tl AA 12 (5 + 30 * kq) (30 + 180 * kq) ((lwM M c g q r m w)) 96 [(11, .int (nI iq)), (9, .int (finR f (nI kq) iq)), (10, .int (nI (u9 + 128 * k9 + 16384 * l9))), (8, .int (nI kq)), (7, .int 1), (6, .int (nI (t % 6))), (0, .ref (B + 0)), (1, .ref (B + 709)), (2, .ref (B + 710)), (3, .ref (B + 711)), (4, .ref (B + 713)), (5, .ref (B + 714))] [] := by
                intro niq
                induction niq with
                | zero =>
                  intro iq hniq
                  refine g_iload F dL_isSo_96 0 rfl ?_
                  refine g_aload_n F dL_isSo_98 rfl 9 rfl ?_
                  refine g_bipush F (v := 19) dL_isSo_99 (by decide +kernel) ?_
                  refine g_iaload (r := 711) F a711 (19) rfl (by omega) (by decide) dL_isSo_101 ?_
                  refine g_top (y := nI n) h19n ?_
                  refine g_icmpN_ge F 160 dL_isSo_102 (by decide) (iq) (n) rfl rfl (by omega) (by omega) (fun hciq => ?_) (fun hciq => ?_)
                  · obtain rfl : n = iq := by omega
                    refine g_iload F dL_isSo_160 4 rfl ?_
                    refine g_if_eq F 283 dL_isSo_162 (by decide) (fun h3 => ?_) (fun h3 => ?_)
                    · exact absurd h3 (by decide)
                    · refine g_aload_n F dL_isSo_165 rfl 6 rfl ?_
                      refine g_iload F dL_isSo_166 3 rfl ?_
                      refine g_aload_n F dL_isSo_168 rfl 9 rfl ?_
                      refine g_bipush F (v := 18) dL_isSo_169 (by decide +kernel) ?_
                      refine g_iaload (r := 711) F a711 (18) rfl (by omega) (by decide) dL_isSo_171 ?_
                      refine g_top (y := nI t) h18 ?_
                      refine g_callSW F (A_shadeOf l hls hv hh z (c := kq) (y := t) (by omega) (by omega)) (vx_cwSW 3 F.1.2.2.2.2 gL_isSo_L_shadeOf rfl rfl rfl (by decide +kernel) ⟨Nat.le_of_ble_eq_true rfl, Nat.le_of_ble_eq_true rfl⟩) rfl rfl rfl (Nat.le_of_ble_eq_true rfl) dL_isSo_172 ⟨by show (5 + 30 * kq) + 2 ≤ 800; omega, by show (30 + 180 * kq) + 12 ≤ 4800; omega⟩ (g_det ?_)
                      refine g_iload F dL_isSo_175 3 rfl ?_
                      refine g_aload_n F dL_isSo_177 rfl 9 rfl ?_
                      refine g_bipush F (v := 18) dL_isSo_178 (by decide +kernel) ?_
                      refine g_iaload (r := 711) F a711 (18) rfl (by omega) (by decide) dL_isSo_180 ?_
                      refine g_top (y := nI t) h18 ?_
                      refine g_aload_n F dL_isSo_181 rfl 7 rfl ?_
                      refine g_callS F (kL_shade l (f := f) (k := kq) (t := t) hC hS hkq ht) (va_cwS 3 F.1.2.2.2.2 gL_isSo_L_shade rfl rfl rfl (by decide +kernel) ⟨Nat.le_of_ble_eq_true rfl, Nat.le_of_ble_eq_true rfl⟩) rfl rfl rfl (Nat.le_of_ble_eq_true rfl) dL_isSo_182 ⟨by show (5 + 30 * kq) + 2 + 0 ≤ 800; omega, by show (30 + 180 * kq) + 12 + 0 ≤ 4800; omega⟩ (g_det ?_)
                      refine g_icmp_ne F 283 dL_isSo_185 (by decide) (fun h1 => ?_) (fun h1 => ?_)
                      · exact absurd rfl h1
                      · refine g_aload_n F dL_isSo_188 rfl 6 rfl ?_
                        refine g_iload F dL_isSo_189 3 rfl ?_
                        refine g_iload F dL_isSo_191 5 rfl ?_
                        refine g_callSW F (A_readingsFrom l hls hv hh z (c := kq) (y := (t % 6)) (by omega) (by omega)) (vx_cwSW 3 F.1.2.2.2.2 gL_isSo_L_readingsFrom rfl rfl rfl (by decide +kernel) ⟨Nat.le_of_ble_eq_true rfl, Nat.le_of_ble_eq_true rfl⟩) rfl rfl rfl (Nat.le_of_ble_eq_true rfl) dL_isSo_193 ⟨by show (5 + 30 * kq) + 2 + 0 + 2 ≤ 800; omega, by show (30 + 180 * kq) + 12 + 0 + 12 ≤ 4800; omega⟩ (g_det ?_)
                        refine g_top (y := nI k9) ((cnt_row z ht hkq (by omega)).trans (congrArg nI ek9.symm)) ?_
                        refine g_iload F dL_isSo_196 2 rfl ?_
                        refine g_bipush F (v := 7) dL_isSo_198 (by decide +kernel) ?_
                        refine g_ishr F dL_isSo_200 ?_
                        refine g_bipush F (v := 127) dL_isSo_201 (by decide +kernel) ?_
                        refine g_iand F dL_isSo_203 ?_
                        refine g_top (y := nI k9) (un_k hu9 hk9 hl9q) ?_
                        refine g_icmpN_ne F 283 dL_isSo_204 (by decide) (k9) (k9) rfl rfl (by omega) (by omega) (fun h1 => ?_) (fun h1 => ?_)
                        · exact absurd h1 (by omega)
                        · refine g_aload_n F dL_isSo_207 rfl 6 rfl ?_
                          refine g_iload F dL_isSo_208 3 rfl ?_
                          refine g_iload F dL_isSo_210 5 rfl ?_
                          refine g_iconst F (v := 1) dL_isSo_212 (by decide) ?_
                          refine g_callSW F (A_longestRow l hls hv hh z (c := kq) (y := (t % 6)) (by omega) (by omega) _) (vx_cwSW 4 F.1.2.2.2.2 gL_isSo_L_longestRow rfl rfl rfl (by decide +kernel) ⟨Nat.le_of_ble_eq_true rfl, Nat.le_of_ble_eq_true rfl⟩) rfl rfl rfl (Nat.le_of_ble_eq_true rfl) dL_isSo_213 ⟨by show (5 + 30 * kq) + 2 + 0 + 2 + 2 ≤ 800; omega, by show (30 + 180 * kq) + 12 + 0 + 12 + 12 ≤ 4800; omega⟩ (g_det ?_)
                          refine g_top (y := nI l9) ((lon_row z ht hkq (by omega)).trans (congrArg nI el9.symm)) ?_
                          refine g_iload F dL_isSo_216 2 rfl ?_
                          refine g_bipush F (v := 14) dL_isSo_218 (by decide +kernel) ?_
                          refine g_ishr F dL_isSo_220 ?_
                          refine g_top (y := nI l9) (un_l hu9 hk9 hl9q) ?_
                          refine g_icmpN_ne F 283 dL_isSo_221 (by decide) (l9) (l9) rfl rfl (by omega) (by omega) (fun h1 => ?_) (fun h1 => ?_)
                          · exact absurd h1 (by omega)
                          · refine g_aload_n F dL_isSo_224 rfl 6 rfl ?_
                            refine g_iload F dL_isSo_225 3 rfl ?_
                            refine g_iload F dL_isSo_227 5 rfl ?_
                            refine g_iconst F (v := 0) dL_isSo_229 (by decide) ?_
                            refine g_callSW F (A_longestRow l hls hv hh z (c := kq) (y := (t % 6)) (by omega) (by omega) _) (vx_cwSW 4 F.1.2.2.2.2 gL_isSo_L_longestRow rfl rfl rfl (by decide +kernel) ⟨Nat.le_of_ble_eq_true rfl, Nat.le_of_ble_eq_true rfl⟩) rfl rfl rfl (Nat.le_of_ble_eq_true rfl) dL_isSo_230 ⟨by show (5 + 30 * kq) + 2 + 0 + 2 + 2 + 2 ≤ 800; omega, by show (30 + 180 * kq) + 12 + 0 + 12 + 12 + 12 ≤ 4800; omega⟩ (g_det ?_)
                            refine g_top (y := nI l9) ((lon_row z ht hkq (by omega)).trans (congrArg nI el9.symm)) ?_
                            refine g_iload F dL_isSo_233 2 rfl ?_
                            refine g_bipush F (v := 14) dL_isSo_235 (by decide +kernel) ?_
                            refine g_ishr F dL_isSo_237 ?_
                            refine g_top (y := nI l9) (un_l hu9 hk9 hl9q) ?_
                            refine g_icmpN_ne F 283 dL_isSo_238 (by decide) (l9) (l9) rfl rfl (by omega) (by omega) (fun h1 => ?_) (fun h1 => ?_)
                            · exact absurd h1 (by omega)
                            · refine g_aload_n F dL_isSo_241 rfl 6 rfl ?_
                              refine g_iload F dL_isSo_242 3 rfl ?_
                              refine g_iconst F (v := 0) dL_isSo_244 (by decide) ?_
                              refine g_callSW F (A_finesOf l hls hv hh z ac (c := kq) (by omega) _) (vx_cwSW 3 F.1.2.2.2.2 gL_isSo_L_finesOf rfl rfl rfl (by decide +kernel) ⟨Nat.le_of_ble_eq_true rfl, Nat.le_of_ble_eq_true rfl⟩) rfl rfl rfl (Nat.le_of_ble_eq_true rfl) dL_isSo_245 ⟨by show (5 + 30 * kq) + 2 + 0 + 2 + 2 + 2 + 1 ≤ 800; omega, by show (30 + 180 * kq) + 12 + 0 + 12 + 12 + 12 + 6 ≤ 4800; omega⟩ (g_det ?_)
                              refine g_iload F dL_isSo_248 1 rfl ?_
                              refine g_icmp_ne F 283 dL_isSo_250 (by decide) (fun h1 => ?_) (fun h1 => ?_)
                              · exact absurd rfl h1
                              · refine g_aload_n F dL_isSo_253 rfl 6 rfl ?_
                                refine g_iload F dL_isSo_254 3 rfl ?_
                                refine g_iconst F (v := 1) dL_isSo_256 (by decide) ?_
                                refine g_callSW F (A_finesOf l hls hv hh z ac (c := kq) (by omega) _) (vx_cwSW 3 F.1.2.2.2.2 gL_isSo_L_finesOf rfl rfl rfl (by decide +kernel) ⟨Nat.le_of_ble_eq_true rfl, Nat.le_of_ble_eq_true rfl⟩) rfl rfl rfl (Nat.le_of_ble_eq_true rfl) dL_isSo_257 ⟨by show (5 + 30 * kq) + 2 + 0 + 2 + 2 + 2 + 1 + 1 ≤ 800; omega, by show (30 + 180 * kq) + 12 + 0 + 12 + 12 + 12 + 6 + 6 ≤ 4800; omega⟩ (g_det ?_)
                                refine g_iload F dL_isSo_260 1 rfl ?_
                                refine g_icmp_ne F 283 dL_isSo_262 (by decide) (fun h1 => ?_) (fun h1 => ?_)
                                · exact absurd rfl h1
                                · refine g_aload_n F dL_isSo_265 rfl 6 rfl ?_
                                  refine g_iload F dL_isSo_266 3 rfl ?_
                                  refine g_aload_n F dL_isSo_268 rfl 9 rfl ?_
                                  refine g_bipush F (v := 18) dL_isSo_269 (by decide +kernel) ?_
                                  refine g_iaload (r := 711) F a711 (18) rfl (by omega) (by decide) dL_isSo_271 ?_
                                  refine g_top (y := nI t) h18 ?_
                                  refine g_callSW F (A_readingOf l hls hv hh z (c := kq) (y := t) (by omega) (by omega)) (vx_cwSW 3 F.1.2.2.2.2 gL_isSo_L_readingOf rfl rfl rfl (by decide +kernel) ⟨Nat.le_of_ble_eq_true rfl, Nat.le_of_ble_eq_true rfl⟩) rfl rfl rfl (Nat.le_of_ble_eq_true rfl) dL_isSo_272 ⟨by show (5 + 30 * kq) + 2 + 0 + 2 + 2 + 2 + 1 + 1 + 2 ≤ 800; omega, by show (30 + 180 * kq) + 12 + 0 + 12 + 12 + 12 + 6 + 6 + 12 ≤ 4800; omega⟩ (g_det ?_)
                                  refine g_top (y := -1) (z.2.2.1 kq hkq t (Nat.le_refl t) ht) ?_
                                  refine g_iconst F (v := -1) dL_isSo_275 (by decide) ?_
                                  refine g_icmp_ne F 283 dL_isSo_276 (by decide) (fun h1 => ?_) (fun h1 => ?_)
                                  · exact absurd rfl h1
                                  · refine g_iconst F (v := 1) dL_isSo_279 (by decide) ?_
                                    refine g_goto F 284 dL_isSo_280 (by decide) ?_
                                    refine g_istore F (lv2 := [(7, _), (11, _), (9, _), (10, _), (8, _), (6, _), (0, _), (1, _), (2, _), (3, _), (4, _), (5, _)]) dL_isSo_284 (by decide) rfl ?_
                                    refine g_iinc F (lv2 := [(8, _), (7, _), (11, _), (9, _), (10, _), (6, _), (0, _), (1, _), (2, _), (3, _), (4, _), (5, _)]) dL_isSo_286 4 rfl (nI_1 _) (by decide) rfl ?_
                                    refine g_goto F 70 dL_isSo_289 (by decide) ?_
                                    refine g_widen (k := (5 + 30 * (kq + 1))) (n := (30 + 180 * (kq + 1))) (by show (5 + 30 * kq) + 2 + 0 + 2 + 2 + 2 + 1 + 1 + 2 ≤ (5 + 30 * (kq + 1)); omega) (by show (30 + 180 * kq) + 12 + 0 + 12 + 12 + 12 + 6 + 6 + 12 ≤ (30 + 180 * (kq + 1)); omega) ?_
                                    refine g_lv (lv2 := [(8, _), (7, _), (6, _), (0, _), (1, _), (2, _), (3, _), (4, _), (5, _)]) [0, 1, 5, 6, 7, 8, 9, 10, 11] rfl ?_
                                    exact g_is rfl rfl (ihkq (kq + 1) (by omega))
                  · exact absurd hciq (by omega)
                | succ niq ihiq =>
                  intro iq hniq
                  obtain ⟨c8, s8, d8, w8, hc8, hs8, hd8, hw8, en, e1, e2, e3, e4⟩ := hN iq (by omega)
                  refine g_iload F dL_isSo_96 0 rfl ?_
                  refine g_aload_n F dL_isSo_98 rfl 9 rfl ?_
                  refine g_bipush F (v := 19) dL_isSo_99 (by decide +kernel) ?_
                  refine g_iaload (r := 711) F a711 (19) rfl (by omega) (by decide) dL_isSo_101 ?_
                  refine g_top (y := nI n) h19n ?_
                  refine g_icmpN_ge F 160 dL_isSo_102 (by decide) (iq) (n) rfl rfl (by omega) (by omega) (fun hciq => ?_) (fun hciq => ?_)
                  · exact absurd hciq (by omega)
                  · refine g_iload F dL_isSo_105 1 rfl ?_
                    refine g_aload F dL_isSo_107 11 rfl ?_
                    refine g_iload F dL_isSo_109 0 rfl ?_
                    refine g_iaload (r := 714) F a714 (iq) rfl (by omega) (by decide) dL_isSo_111 ?_
                    refine g_top (y := nI (c8 + 8 * s8 + 256 * d8 + 1024 * w8)) en ?_
                    refine g_bipush F (v := 7) dL_isSo_112 (by decide +kernel) ?_
                    refine g_iand F dL_isSo_114 ?_
                    refine g_top (y := nI c8) (un_c hc8 hs8 hd8 hw8) ?_
                    refine g_iload F dL_isSo_115 3 rfl ?_
                    refine g_icmpN_ne F 150 dL_isSo_117 (by decide) (c8) (kq) rfl rfl (by omega) (by omega) (fun h1 => ?_) (fun h1 => ?_)
                    · refine g_iconst F (v := 0) dL_isSo_150 (by decide) ?_
                      refine g_iadd F dL_isSo_151 ?_
                      refine g_istore F (lv2 := [(9, _), (11, _), (10, _), (8, _), (7, _), (6, _), (0, _), (1, _), (2, _), (3, _), (4, _), (5, _)]) dL_isSo_152 (by decide) rfl ?_
                      refine g_iinc F (lv2 := [(11, _), (9, _), (10, _), (8, _), (7, _), (6, _), (0, _), (1, _), (2, _), (3, _), (4, _), (5, _)]) dL_isSo_154 1 rfl (nI_1 _) (by decide) rfl ?_
                      refine g_goto F 96 dL_isSo_157 (by decide) ?_
                      refine g_widen (k := (5 + 30 * kq)) (n := (30 + 180 * kq)) (by show (5 + 30 * kq) ≤ (5 + 30 * kq); omega) (by show (30 + 180 * kq) ≤ (30 + 180 * kq); omega) ?_
                      refine g_lv (lv2 := [(11, _), (9, _), (10, _), (8, _), (7, _), (6, _), (0, _), (1, _), (2, _), (3, _), (4, _), (5, _)]) [0, 1, 2, 3, 4, 5, 6, 7, 8, 9, 10, 11] rfl ?_
                      exact g_is rfl (by first | rw [FIN_n e1 hc8 hkq h1] | rw [FIN_m e3 hd8 h2] | rw [FIN_y e1 e2 e3 h1 h2]) (ihiq (iq + 1) (by omega))
                    · refine g_aload F dL_isSo_120 11 rfl ?_
                      refine g_iload F dL_isSo_122 0 rfl ?_
                      refine g_iaload (r := 714) F a714 (iq) rfl (by omega) (by decide) dL_isSo_124 ?_
                      refine g_top (y := nI (c8 + 8 * s8 + 256 * d8 + 1024 * w8)) en ?_
                      refine g_bipush F (v := 8) dL_isSo_125 (by decide +kernel) ?_
                      refine g_ishr F dL_isSo_127 ?_
                      refine g_iconst F (v := 3) dL_isSo_128 (by decide) ?_
                      refine g_iand F dL_isSo_129 ?_
                      refine g_top (y := nI d8) (un_d hc8 hs8 hd8 hw8) ?_
                      refine g_iconst F (v := 2) dL_isSo_130 (by decide) ?_
                      refine g_icmpN_ge F 150 dL_isSo_131 (by decide) (d8) (2) rfl rfl (by omega) (by omega) (fun h2 => ?_) (fun h2 => ?_)
                      · refine g_iconst F (v := 0) dL_isSo_150 (by decide) ?_
                        refine g_iadd F dL_isSo_151 ?_
                        refine g_istore F (lv2 := [(9, _), (11, _), (10, _), (8, _), (7, _), (6, _), (0, _), (1, _), (2, _), (3, _), (4, _), (5, _)]) dL_isSo_152 (by decide) rfl ?_
                        refine g_iinc F (lv2 := [(11, _), (9, _), (10, _), (8, _), (7, _), (6, _), (0, _), (1, _), (2, _), (3, _), (4, _), (5, _)]) dL_isSo_154 1 rfl (nI_1 _) (by decide) rfl ?_
                        refine g_goto F 96 dL_isSo_157 (by decide) ?_
                        refine g_widen (k := (5 + 30 * kq)) (n := (30 + 180 * kq)) (by show (5 + 30 * kq) ≤ (5 + 30 * kq); omega) (by show (30 + 180 * kq) ≤ (30 + 180 * kq); omega) ?_
                        refine g_lv (lv2 := [(11, _), (9, _), (10, _), (8, _), (7, _), (6, _), (0, _), (1, _), (2, _), (3, _), (4, _), (5, _)]) [0, 1, 2, 3, 4, 5, 6, 7, 8, 9, 10, 11] rfl ?_
                        exact g_is rfl (by first | rw [FIN_n e1 hc8 hkq h1] | rw [FIN_m e3 hd8 h2] | rw [FIN_y e1 e2 e3 h1 h2]) (ihiq (iq + 1) (by omega))
                      · refine g_bipush F (v := 10) dL_isSo_134 (by decide +kernel) ?_
                        refine g_aload F dL_isSo_136 11 rfl ?_
                        refine g_iload F dL_isSo_138 0 rfl ?_
                        refine g_iaload (r := 714) F a714 (iq) rfl (by omega) (by decide) dL_isSo_140 ?_
                        refine g_top (y := nI (c8 + 8 * s8 + 256 * d8 + 1024 * w8)) en ?_
                        refine g_iconst F (v := 3) dL_isSo_141 (by decide) ?_
                        refine g_ishr F dL_isSo_142 ?_
                        refine g_bipush F (v := 31) dL_isSo_143 (by decide +kernel) ?_
                        refine g_iand F dL_isSo_145 ?_
                        refine g_top (y := nI s8) (un_s hc8 hs8 hd8 hw8) ?_
                        refine g_imul F dL_isSo_146 ?_
                        refine g_top (pk_mul (10) (s8)) ?_
                        refine g_goto F 151 dL_isSo_147 (by decide) ?_
                        refine g_iadd F dL_isSo_151 ?_
                        refine g_istore F (lv2 := [(9, _), (11, _), (10, _), (8, _), (7, _), (6, _), (0, _), (1, _), (2, _), (3, _), (4, _), (5, _)]) dL_isSo_152 (by decide) rfl ?_
                        refine g_iinc F (lv2 := [(11, _), (9, _), (10, _), (8, _), (7, _), (6, _), (0, _), (1, _), (2, _), (3, _), (4, _), (5, _)]) dL_isSo_154 1 rfl (nI_1 _) (by decide) rfl ?_
                        refine g_goto F 96 dL_isSo_157 (by decide) ?_
                        refine g_widen (k := (5 + 30 * kq)) (n := (30 + 180 * kq)) (by show (5 + 30 * kq) ≤ (5 + 30 * kq); omega) (by show (30 + 180 * kq) ≤ (30 + 180 * kq); omega) ?_
                        refine g_lv (lv2 := [(11, _), (9, _), (10, _), (8, _), (7, _), (6, _), (0, _), (1, _), (2, _), (3, _), (4, _), (5, _)]) [0, 1, 2, 3, 4, 5, 6, 7, 8, 9, 10, 11] rfl ?_
                        exact g_is rfl (by first | rw [FIN_n e1 hc8 hkq h1] | rw [FIN_m e3 hd8 h2] | rw [FIN_y e1 e2 e3 h1 h2]) (ihiq (iq + 1) (by omega))
              refine g_widen (k := (5 + 30 * kq)) (n := (30 + 180 * kq)) (by show (5 + 30 * kq) ≤ (5 + 30 * kq); omega) (by show (30 + 180 * kq) ≤ (30 + 180 * kq); omega) ?_
              refine g_lv (lv2 := [(11, _), (9, _), (10, _), (8, _), (7, _), (6, _), (0, _), (1, _), (2, _), (3, _), (4, _), (5, _)]) [0, 2, 1, 3, 4, 5, 6, 7, 8, 9, 10, 11] rfl ?_
              exact g_is rfl rfl (LF (n - 0) (0) (by omega))
        refine g_widen (k := (5 + 30 * 0)) (n := (30 + 180 * 0)) (by show 0 + 0 + 0 + 1 ≤ (5 + 30 * 0); omega) (by show 0 + 0 + 0 + 6 ≤ (30 + 180 * 0); omega) ?_
        refine g_lv (lv2 := [(8, _), (7, _), (6, _), (0, _), (1, _), (2, _), (3, _), (4, _), (5, _)]) [0, 1, 2, 3, 4, 5, 6, 7, 8] rfl ?_
        exact g_is rfl rfl (LP (8 - 0) (0) (by omega))
