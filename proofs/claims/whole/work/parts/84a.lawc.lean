section LAWC
variable {p : Program} {l : Launch} {e : Env} {s : State} {m : MethodId} {args : Array Value} {below : List Frame} {meth : Method} {c : Code} {Q : State → Prop} {D : va_G} {ca : Nat → ClassId} {cl : ClassId} {o : Nat → Int64} {B b L j : Nat} {xs : Nat → Int32} {cells slots : Nat} {M : Mm}

set_option maxHeartbeats 2000000 in
set_option maxRecDepth 100000 in
theorem law_c0 (hls : l.stackTraces = false) (F : Fx p room_1 s m args meth c cL_law 7 wsL_law RL D ca (AB B)) (hN : Nc3 s) (hL : va_K D vwCl [(cl, .long)] s) (hX : va_X b L xs s s.heap) (hb : b < s.heap.size) (hbA : ¬ AB B b) (hL9 : L ≤ 3072) (hj : 6 * j + 5 < L) (I : INV M) (hc : cells + 61 ≤ 601024) (hs : slots + 366 ≤ 7293034) (kk : ∀ (o' : Nat → Int64) (M' : Mm), INV M' → G p l e room_1 s m args below meth c Q D ca B (TL cl B o') (AB B) 7 (cells + 61) (slots + 366) M' 2438 [(4, .int (nI (6 * j))), (0, .ref b), (1, .ref (B + 0)), (2, .ref (B + 709)), (3, .ref (B + 717))] []) : G p l e room_1 s m args below meth c Q D ca B (TL cl B o) (AB B) 7 (cells) (slots) M 216 [(4, .int (nI (6 * j))), (0, .ref b), (1, .ref (B + 0)), (2, .ref (B + 709)), (3, .ref (B + 717))] [] := by
  refine g_aload_n F dL_law_216 rfl 2 rfl ?_
  refine g_aload_n F dL_law_217 rfl 1 rfl ?_
  refine g_iload F dL_law_218 0 rfl ?_
  refine g_iconst F (v := 1) dL_law_220 (by decide) ?_
  refine g_iadd F dL_law_221 ?_
  refine g_sld F hX hb hbA (6 * j + 1) (nI_ad (6 * j) 1) (by omega) hL9 dL_law_222 ?_
  refine g_aload_n F dL_law_223 rfl 1 rfl ?_
  refine g_iload F dL_law_224 0 rfl ?_
  refine g_iconst F (v := 2) dL_law_226 (by decide) ?_
  refine g_iadd F dL_law_227 ?_
  refine g_sld F hX hb hbA (6 * j + 2) (nI_ad (6 * j) 2) (by omega) hL9 dL_law_228 ?_
  refine g_aload_n F dL_law_229 rfl 1 rfl ?_
  refine g_iload F dL_law_230 0 rfl ?_
  refine g_iconst F (v := 3) dL_law_232 (by decide) ?_
  refine g_iadd F dL_law_233 ?_
  refine g_sld F hX hb hbA (6 * j + 3) (nI_ad (6 * j) 3) (by omega) hL9 dL_law_234 ?_
  refine g_aload_n F dL_law_235 rfl 1 rfl ?_
  refine g_iload F dL_law_236 0 rfl ?_
  refine g_iconst F (v := 4) dL_law_238 (by decide) ?_
  refine g_iadd F dL_law_239 ?_
  refine g_sld F hX hb hbA (6 * j + 4) (nI_ad (6 * j) 4) (by omega) hL9 dL_law_240 ?_
  refine g_aload_n F dL_law_241 rfl 1 rfl ?_
  refine g_iload F dL_law_242 0 rfl ?_
  refine g_iconst F (v := 5) dL_law_244 (by decide) ?_
  refine g_iadd F dL_law_245 ?_
  refine g_sld F hX hb hbA (6 * j + 5) (nI_ad (6 * j) 5) (by omega) hL9 dL_law_246 ?_
  refine g_aload_n F dL_law_247 rfl 4 rfl ?_
  refine g_callW F hN hL (S_setChimney l hls I (xs (6 * j + 1)) (xs (6 * j + 2)) (xs (6 * j + 3)) (xs (6 * j + 4)) (xs (6 * j + 5))) (vx_cwSW 7 F.1.2.2.2.2 gL_law_L_setChimney rfl rfl rfl (by decide +kernel) ⟨Nat.le_of_ble_eq_true rfl, Nat.le_of_ble_eq_true rfl⟩) rfl rfl rfl (Nat.le_of_ble_eq_true rfl) dL_law_248 ⟨by show cells + 3 ≤ 601024; omega, by show slots + 18 ≤ 7293034; omega⟩ (fun k9 o9 u9 hu9 => ?_)
  obtain ⟨post9, hM9, hq9⟩ := hu9
  refine g_istore F (lv2 := [(5, _), (4, _), (0, _), (1, _), (2, _), (3, _)]) dL_law_251 (by decide) rfl ?_
  refine g_aload_n F dL_law_253 rfl 4 rfl ?_
  refine g_aload_n F dL_law_254 rfl 2 rfl ?_
  refine g_iload F dL_law_255 1 rfl ?_
  refine g_iconst F (v := 1) dL_law_257 (by decide) ?_
  refine g_iadd F dL_law_258 ?_
  refine g_sld F hX hb hbA (6 * j + 1) (nI_ad (6 * j) 1) (by omega) hL9 dL_law_259 ?_
  refine g_aload_n F dL_law_260 rfl 2 rfl ?_
  refine g_iload F dL_law_261 1 rfl ?_
  refine g_iconst F (v := 2) dL_law_263 (by decide) ?_
  refine g_iadd F dL_law_264 ?_
  refine g_sld F hX hb hbA (6 * j + 2) (nI_ad (6 * j) 2) (by omega) hL9 dL_law_265 ?_
  refine g_aload_n F dL_law_266 rfl 2 rfl ?_
  refine g_iload F dL_law_267 1 rfl ?_
  refine g_iconst F (v := 3) dL_law_269 (by decide) ?_
  refine g_iadd F dL_law_270 ?_
  refine g_sld F hX hb hbA (6 * j + 3) (nI_ad (6 * j) 3) (by omega) hL9 dL_law_271 ?_
  refine g_aload_n F dL_law_272 rfl 2 rfl ?_
  refine g_iload F dL_law_273 1 rfl ?_
  refine g_iconst F (v := 4) dL_law_275 (by decide) ?_
  refine g_iadd F dL_law_276 ?_
  refine g_sld F hX hb hbA (6 * j + 4) (nI_ad (6 * j) 4) (by omega) hL9 dL_law_277 ?_
  refine g_aload_n F dL_law_278 rfl 2 rfl ?_
  refine g_iload F dL_law_279 1 rfl ?_
  refine g_iconst F (v := 5) dL_law_281 (by decide) ?_
  refine g_iadd F dL_law_282 ?_
  refine g_sld F hX hb hbA (6 * j + 5) (nI_ad (6 * j) 5) (by omega) hL9 dL_law_283 ?_
  refine g_callV F hM9 (cwV 5 F.1.2.2.2.2 gL_law_X9_setChimney rfl rfl rfl (by decide +kernel) ⟨Nat.le_of_ble_eq_true rfl, Nat.le_of_ble_eq_true rfl⟩) r709 (by decide) rfl rfl rfl rfl (Nat.le_of_ble_eq_true rfl) dL_law_284 ⟨by show cells + 3 + 0 ≤ 601024; omega, by show slots + 18 + 0 ≤ 7293034; omega⟩ (fun v9 u2 hv9 => ?_)
  obtain ⟨b9, rfl, hcc, ho, hI⟩ := hq9 _ _ _ hv9
  refine g_istore F (lv2 := [(6, _), (5, _), (4, _), (0, _), (1, _), (2, _), (3, _)]) dL_law_287 (by decide) rfl ?_
  refine g_aload_n F dL_law_289 rfl 5 rfl ?_
  refine g_callV F (kX9_thrown l) (cwV 0 F.1.2.2.2.2 gL_law_X9_thrown rfl rfl rfl (by decide +kernel) ⟨Nat.le_of_ble_eq_true rfl, Nat.le_of_ble_eq_true rfl⟩) r709 (by decide) rfl rfl rfl rfl (Nat.le_of_ble_eq_true rfl) dL_law_290 ⟨by show cells + 3 + 0 ≤ 601024; omega, by show slots + 18 + 0 ≤ 7293034; omega⟩ (g_det ?_)
  refine g_iload F dL_law_293 1 rfl ?_
  refine g_icmp_eq F 300 dL_law_295 (by decide) (fun h1 => ?_) (fun h1 => absurd hcc h1)
  refine g_iload F dL_law_300 1 rfl ?_
  refine g_if_ne F 317 dL_law_302 (by decide) (fun h1 => ?_) (fun h1 => ?_)
  · refine g_goto F 2438 dL_law_317 (by decide) ?_
    refine g_lv (lv2 := [(4, .int (nI (6 * j))), (0, .ref b), (1, .ref (B + 0)), (2, .ref (B + 709)), (3, .ref (B + 717))]) [2, 3, 4, 5, 6] rfl ?_
    refine g_widen (k := cells + 61) (n := slots + 366) (by show cells + 3 ≤ cells + 61; omega) (by show slots + 18 ≤ slots + 366; omega) ?_
    exact kk _ _ hI
  · refine g_aload_n F dL_law_305 rfl 6 rfl ?_
    refine g_iconst F (v := 0) dL_law_306 (by decide) ?_
    refine g_outld F hL dL_law_307 ?_
    refine g_iload F dL_law_308 0 rfl ?_
    refine g_i2l F dL_law_310 ?_
    refine g_lcmp F dL_law_311 ?_
    refine g_if_eq F 317 dL_law_312 (by decide) (fun h2 => ?_) (fun h2 => absurd (lg_eq0.mpr (ho h1)) h2)
    refine g_goto F 2438 dL_law_317 (by decide) ?_
    refine g_lv (lv2 := [(4, .int (nI (6 * j))), (0, .ref b), (1, .ref (B + 0)), (2, .ref (B + 709)), (3, .ref (B + 717))]) [2, 3, 4, 5, 6] rfl ?_
    refine g_widen (k := cells + 61) (n := slots + 366) (by show cells + 3 ≤ cells + 61; omega) (by show slots + 18 ≤ slots + 366; omega) ?_
    exact kk _ _ hI
set_option maxHeartbeats 2000000 in
set_option maxRecDepth 100000 in
theorem law_c1 (hls : l.stackTraces = false) (F : Fx p room_1 s m args meth c cL_law 7 wsL_law RL D ca (AB B)) (hN : Nc3 s) (hL : va_K D vwCl [(cl, .long)] s) (hX : va_X b L xs s s.heap) (hb : b < s.heap.size) (hbA : ¬ AB B b) (hL9 : L ≤ 3072) (hj : 6 * j + 5 < L) (I : INV M) (hc : cells + 61 ≤ 601024) (hs : slots + 366 ≤ 7293034) (kk : ∀ (o' : Nat → Int64) (M' : Mm), INV M' → G p l e room_1 s m args below meth c Q D ca B (TL cl B o') (AB B) 7 (cells + 61) (slots + 366) M' 2438 [(4, .int (nI (6 * j))), (0, .ref b), (1, .ref (B + 0)), (2, .ref (B + 709)), (3, .ref (B + 717))] []) : G p l e room_1 s m args below meth c Q D ca B (TL cl B o) (AB B) 7 (cells) (slots) M 320 [(4, .int (nI (6 * j))), (0, .ref b), (1, .ref (B + 0)), (2, .ref (B + 709)), (3, .ref (B + 717))] [] := by
  refine g_aload_n F dL_law_320 rfl 2 rfl ?_
  refine g_aload_n F dL_law_321 rfl 1 rfl ?_
  refine g_iload F dL_law_322 0 rfl ?_
  refine g_iconst F (v := 1) dL_law_324 (by decide) ?_
  refine g_iadd F dL_law_325 ?_
  refine g_sld F hX hb hbA (6 * j + 1) (nI_ad (6 * j) 1) (by omega) hL9 dL_law_326 ?_
  refine g_aload_n F dL_law_327 rfl 1 rfl ?_
  refine g_iload F dL_law_328 0 rfl ?_
  refine g_iconst F (v := 2) dL_law_330 (by decide) ?_
  refine g_iadd F dL_law_331 ?_
  refine g_sld F hX hb hbA (6 * j + 2) (nI_ad (6 * j) 2) (by omega) hL9 dL_law_332 ?_
  refine g_aload_n F dL_law_333 rfl 4 rfl ?_
  refine g_callW F hN hL (S_setGrey l hls I (xs (6 * j + 1)) (xs (6 * j + 2))) (vx_cwSW 4 F.1.2.2.2.2 gL_law_L_setGrey rfl rfl rfl (by decide +kernel) ⟨Nat.le_of_ble_eq_true rfl, Nat.le_of_ble_eq_true rfl⟩) rfl rfl rfl (Nat.le_of_ble_eq_true rfl) dL_law_334 ⟨by show cells + 1 ≤ 601024; omega, by show slots + 6 ≤ 7293034; omega⟩ (fun k9 o9 u9 hu9 => ?_)
  obtain ⟨post9, hM9, hq9⟩ := hu9
  refine g_istore F (lv2 := [(5, _), (4, _), (0, _), (1, _), (2, _), (3, _)]) dL_law_337 (by decide) rfl ?_
  refine g_aload_n F dL_law_339 rfl 4 rfl ?_
  refine g_aload_n F dL_law_340 rfl 2 rfl ?_
  refine g_iload F dL_law_341 1 rfl ?_
  refine g_iconst F (v := 1) dL_law_343 (by decide) ?_
  refine g_iadd F dL_law_344 ?_
  refine g_sld F hX hb hbA (6 * j + 1) (nI_ad (6 * j) 1) (by omega) hL9 dL_law_345 ?_
  refine g_aload_n F dL_law_346 rfl 2 rfl ?_
  refine g_iload F dL_law_347 1 rfl ?_
  refine g_iconst F (v := 2) dL_law_349 (by decide) ?_
  refine g_iadd F dL_law_350 ?_
  refine g_sld F hX hb hbA (6 * j + 2) (nI_ad (6 * j) 2) (by omega) hL9 dL_law_351 ?_
  refine g_callV F hM9 (cwV 2 F.1.2.2.2.2 gL_law_X9_setGrey rfl rfl rfl (by decide +kernel) ⟨Nat.le_of_ble_eq_true rfl, Nat.le_of_ble_eq_true rfl⟩) r709 (by decide) rfl rfl rfl rfl (Nat.le_of_ble_eq_true rfl) dL_law_352 ⟨by show cells + 1 + 0 ≤ 601024; omega, by show slots + 6 + 0 ≤ 7293034; omega⟩ (fun v9 u2 hv9 => ?_)
  obtain ⟨b9, rfl, hcc, ho, hI⟩ := hq9 _ _ _ hv9
  refine g_istore F (lv2 := [(6, _), (5, _), (4, _), (0, _), (1, _), (2, _), (3, _)]) dL_law_355 (by decide) rfl ?_
  refine g_aload_n F dL_law_357 rfl 5 rfl ?_
  refine g_callV F (kX9_thrown l) (cwV 0 F.1.2.2.2.2 gL_law_X9_thrown rfl rfl rfl (by decide +kernel) ⟨Nat.le_of_ble_eq_true rfl, Nat.le_of_ble_eq_true rfl⟩) r709 (by decide) rfl rfl rfl rfl (Nat.le_of_ble_eq_true rfl) dL_law_358 ⟨by show cells + 1 + 0 ≤ 601024; omega, by show slots + 6 + 0 ≤ 7293034; omega⟩ (g_det ?_)
  refine g_iload F dL_law_361 1 rfl ?_
  refine g_icmp_eq F 368 dL_law_363 (by decide) (fun h1 => ?_) (fun h1 => absurd hcc h1)
  refine g_iload F dL_law_368 1 rfl ?_
  refine g_if_ne F 385 dL_law_370 (by decide) (fun h1 => ?_) (fun h1 => ?_)
  · refine g_goto F 2438 dL_law_385 (by decide) ?_
    refine g_lv (lv2 := [(4, .int (nI (6 * j))), (0, .ref b), (1, .ref (B + 0)), (2, .ref (B + 709)), (3, .ref (B + 717))]) [2, 3, 4, 5, 6] rfl ?_
    refine g_widen (k := cells + 61) (n := slots + 366) (by show cells + 1 ≤ cells + 61; omega) (by show slots + 6 ≤ slots + 366; omega) ?_
    exact kk _ _ hI
  · refine g_aload_n F dL_law_373 rfl 6 rfl ?_
    refine g_iconst F (v := 0) dL_law_374 (by decide) ?_
    refine g_outld F hL dL_law_375 ?_
    refine g_iload F dL_law_376 0 rfl ?_
    refine g_i2l F dL_law_378 ?_
    refine g_lcmp F dL_law_379 ?_
    refine g_if_eq F 385 dL_law_380 (by decide) (fun h2 => ?_) (fun h2 => absurd (lg_eq0.mpr (ho h1)) h2)
    refine g_goto F 2438 dL_law_385 (by decide) ?_
    refine g_lv (lv2 := [(4, .int (nI (6 * j))), (0, .ref b), (1, .ref (B + 0)), (2, .ref (B + 709)), (3, .ref (B + 717))]) [2, 3, 4, 5, 6] rfl ?_
    refine g_widen (k := cells + 61) (n := slots + 366) (by show cells + 1 ≤ cells + 61; omega) (by show slots + 6 ≤ slots + 366; omega) ?_
    exact kk _ _ hI
set_option maxHeartbeats 2000000 in
set_option maxRecDepth 100000 in
theorem law_c2 (hls : l.stackTraces = false) (F : Fx p room_1 s m args meth c cL_law 7 wsL_law RL D ca (AB B)) (hN : Nc3 s) (hL : va_K D vwCl [(cl, .long)] s) (hX : va_X b L xs s s.heap) (hb : b < s.heap.size) (hbA : ¬ AB B b) (hL9 : L ≤ 3072) (hj : 6 * j + 5 < L) (I : INV M) (hc : cells + 61 ≤ 601024) (hs : slots + 366 ≤ 7293034) (kk : ∀ (o' : Nat → Int64) (M' : Mm), INV M' → G p l e room_1 s m args below meth c Q D ca B (TL cl B o') (AB B) 7 (cells + 61) (slots + 366) M' 2438 [(4, .int (nI (6 * j))), (0, .ref b), (1, .ref (B + 0)), (2, .ref (B + 709)), (3, .ref (B + 717))] []) : G p l e room_1 s m args below meth c Q D ca B (TL cl B o) (AB B) 7 (cells) (slots) M 388 [(4, .int (nI (6 * j))), (0, .ref b), (1, .ref (B + 0)), (2, .ref (B + 709)), (3, .ref (B + 717))] [] := by
  refine g_aload_n F dL_law_388 rfl 2 rfl ?_
  refine g_aload_n F dL_law_389 rfl 1 rfl ?_
  refine g_iload F dL_law_390 0 rfl ?_
  refine g_iconst F (v := 1) dL_law_392 (by decide) ?_
  refine g_iadd F dL_law_393 ?_
  refine g_sld F hX hb hbA (6 * j + 1) (nI_ad (6 * j) 1) (by omega) hL9 dL_law_394 ?_
  refine g_aload_n F dL_law_395 rfl 1 rfl ?_
  refine g_iload F dL_law_396 0 rfl ?_
  refine g_iconst F (v := 2) dL_law_398 (by decide) ?_
  refine g_iadd F dL_law_399 ?_
  refine g_sld F hX hb hbA (6 * j + 2) (nI_ad (6 * j) 2) (by omega) hL9 dL_law_400 ?_
  refine g_aload_n F dL_law_401 rfl 4 rfl ?_
  refine g_callW F hN hL (S_watch l hls I (xs (6 * j + 1)) (xs (6 * j + 2))) (vx_cwSW 4 F.1.2.2.2.2 gL_law_L_watch rfl rfl rfl (by decide +kernel) ⟨Nat.le_of_ble_eq_true rfl, Nat.le_of_ble_eq_true rfl⟩) rfl rfl rfl (Nat.le_of_ble_eq_true rfl) dL_law_402 ⟨by show cells + 2 ≤ 601024; omega, by show slots + 12 ≤ 7293034; omega⟩ (fun k9 o9 u9 hu9 => ?_)
  obtain ⟨post9, hM9, hq9⟩ := hu9
  refine g_istore F (lv2 := [(5, _), (4, _), (0, _), (1, _), (2, _), (3, _)]) dL_law_405 (by decide) rfl ?_
  refine g_aload_n F dL_law_407 rfl 4 rfl ?_
  refine g_aload_n F dL_law_408 rfl 2 rfl ?_
  refine g_iload F dL_law_409 1 rfl ?_
  refine g_iconst F (v := 1) dL_law_411 (by decide) ?_
  refine g_iadd F dL_law_412 ?_
  refine g_sld F hX hb hbA (6 * j + 1) (nI_ad (6 * j) 1) (by omega) hL9 dL_law_413 ?_
  refine g_aload_n F dL_law_414 rfl 2 rfl ?_
  refine g_iload F dL_law_415 1 rfl ?_
  refine g_iconst F (v := 2) dL_law_417 (by decide) ?_
  refine g_iadd F dL_law_418 ?_
  refine g_sld F hX hb hbA (6 * j + 2) (nI_ad (6 * j) 2) (by omega) hL9 dL_law_419 ?_
  refine g_callV F hM9 (cwV 2 F.1.2.2.2.2 gL_law_X9_watch rfl rfl rfl (by decide +kernel) ⟨Nat.le_of_ble_eq_true rfl, Nat.le_of_ble_eq_true rfl⟩) r709 (by decide) rfl rfl rfl rfl (Nat.le_of_ble_eq_true rfl) dL_law_420 ⟨by show cells + 2 + 0 ≤ 601024; omega, by show slots + 12 + 0 ≤ 7293034; omega⟩ (fun v9 u2 hv9 => ?_)
  obtain ⟨b9, rfl, hcc, ho, hI⟩ := hq9 _ _ _ hv9
  refine g_istore F (lv2 := [(6, _), (5, _), (4, _), (0, _), (1, _), (2, _), (3, _)]) dL_law_423 (by decide) rfl ?_
  refine g_aload_n F dL_law_425 rfl 5 rfl ?_
  refine g_callV F (kX9_thrown l) (cwV 0 F.1.2.2.2.2 gL_law_X9_thrown rfl rfl rfl (by decide +kernel) ⟨Nat.le_of_ble_eq_true rfl, Nat.le_of_ble_eq_true rfl⟩) r709 (by decide) rfl rfl rfl rfl (Nat.le_of_ble_eq_true rfl) dL_law_426 ⟨by show cells + 2 + 0 ≤ 601024; omega, by show slots + 12 + 0 ≤ 7293034; omega⟩ (g_det ?_)
  refine g_iload F dL_law_429 1 rfl ?_
  refine g_icmp_eq F 436 dL_law_431 (by decide) (fun h1 => ?_) (fun h1 => absurd hcc h1)
  refine g_iload F dL_law_436 1 rfl ?_
  refine g_if_ne F 453 dL_law_438 (by decide) (fun h1 => ?_) (fun h1 => ?_)
  · refine g_goto F 2438 dL_law_453 (by decide) ?_
    refine g_lv (lv2 := [(4, .int (nI (6 * j))), (0, .ref b), (1, .ref (B + 0)), (2, .ref (B + 709)), (3, .ref (B + 717))]) [2, 3, 4, 5, 6] rfl ?_
    refine g_widen (k := cells + 61) (n := slots + 366) (by show cells + 2 ≤ cells + 61; omega) (by show slots + 12 ≤ slots + 366; omega) ?_
    exact kk _ _ hI
  · refine g_aload_n F dL_law_441 rfl 6 rfl ?_
    refine g_iconst F (v := 0) dL_law_442 (by decide) ?_
    refine g_outld F hL dL_law_443 ?_
    refine g_iload F dL_law_444 0 rfl ?_
    refine g_i2l F dL_law_446 ?_
    refine g_lcmp F dL_law_447 ?_
    refine g_if_eq F 453 dL_law_448 (by decide) (fun h2 => ?_) (fun h2 => absurd (lg_eq0.mpr (ho h1)) h2)
    refine g_goto F 2438 dL_law_453 (by decide) ?_
    refine g_lv (lv2 := [(4, .int (nI (6 * j))), (0, .ref b), (1, .ref (B + 0)), (2, .ref (B + 709)), (3, .ref (B + 717))]) [2, 3, 4, 5, 6] rfl ?_
    refine g_widen (k := cells + 61) (n := slots + 366) (by show cells + 2 ≤ cells + 61; omega) (by show slots + 12 ≤ slots + 366; omega) ?_
    exact kk _ _ hI
set_option maxHeartbeats 2000000 in
set_option maxRecDepth 100000 in
theorem law_c3 (hls : l.stackTraces = false) (F : Fx p room_1 s m args meth c cL_law 7 wsL_law RL D ca (AB B)) (hN : Nc3 s) (hL : va_K D vwCl [(cl, .long)] s) (hX : va_X b L xs s s.heap) (hb : b < s.heap.size) (hbA : ¬ AB B b) (hL9 : L ≤ 3072) (hj : 6 * j + 5 < L) (I : INV M) (hc : cells + 61 ≤ 601024) (hs : slots + 366 ≤ 7293034) (kk : ∀ (o' : Nat → Int64) (M' : Mm), INV M' → G p l e room_1 s m args below meth c Q D ca B (TL cl B o') (AB B) 7 (cells + 61) (slots + 366) M' 2438 [(4, .int (nI (6 * j))), (0, .ref b), (1, .ref (B + 0)), (2, .ref (B + 709)), (3, .ref (B + 717))] []) : G p l e room_1 s m args below meth c Q D ca B (TL cl B o) (AB B) 7 (cells) (slots) M 456 [(4, .int (nI (6 * j))), (0, .ref b), (1, .ref (B + 0)), (2, .ref (B + 709)), (3, .ref (B + 717))] [] := by
  refine g_aload_n F dL_law_456 rfl 2 rfl ?_
  refine g_aload_n F dL_law_457 rfl 1 rfl ?_
  refine g_iload F dL_law_458 0 rfl ?_
  refine g_iconst F (v := 1) dL_law_460 (by decide) ?_
  refine g_iadd F dL_law_461 ?_
  refine g_sld F hX hb hbA (6 * j + 1) (nI_ad (6 * j) 1) (by omega) hL9 dL_law_462 ?_
  refine g_aload_n F dL_law_463 rfl 1 rfl ?_
  refine g_iload F dL_law_464 0 rfl ?_
  refine g_iconst F (v := 2) dL_law_466 (by decide) ?_
  refine g_iadd F dL_law_467 ?_
  refine g_sld F hX hb hbA (6 * j + 2) (nI_ad (6 * j) 2) (by omega) hL9 dL_law_468 ?_
  refine g_aload_n F dL_law_469 rfl 4 rfl ?_
  refine g_callW F hN hL (S_setBias l hls I (xs (6 * j + 1)) (xs (6 * j + 2))) (vx_cwSW 4 F.1.2.2.2.2 gL_law_L_setBias rfl rfl rfl (by decide +kernel) ⟨Nat.le_of_ble_eq_true rfl, Nat.le_of_ble_eq_true rfl⟩) rfl rfl rfl (Nat.le_of_ble_eq_true rfl) dL_law_470 ⟨by show cells + 2 ≤ 601024; omega, by show slots + 12 ≤ 7293034; omega⟩ (fun k9 o9 u9 hu9 => ?_)
  obtain ⟨post9, hM9, hq9⟩ := hu9
  refine g_istore F (lv2 := [(5, _), (4, _), (0, _), (1, _), (2, _), (3, _)]) dL_law_473 (by decide) rfl ?_
  refine g_aload_n F dL_law_475 rfl 4 rfl ?_
  refine g_aload_n F dL_law_476 rfl 2 rfl ?_
  refine g_iload F dL_law_477 1 rfl ?_
  refine g_iconst F (v := 1) dL_law_479 (by decide) ?_
  refine g_iadd F dL_law_480 ?_
  refine g_sld F hX hb hbA (6 * j + 1) (nI_ad (6 * j) 1) (by omega) hL9 dL_law_481 ?_
  refine g_aload_n F dL_law_482 rfl 2 rfl ?_
  refine g_iload F dL_law_483 1 rfl ?_
  refine g_iconst F (v := 2) dL_law_485 (by decide) ?_
  refine g_iadd F dL_law_486 ?_
  refine g_sld F hX hb hbA (6 * j + 2) (nI_ad (6 * j) 2) (by omega) hL9 dL_law_487 ?_
  refine g_callV F hM9 (cwV 2 F.1.2.2.2.2 gL_law_X9_setBias rfl rfl rfl (by decide +kernel) ⟨Nat.le_of_ble_eq_true rfl, Nat.le_of_ble_eq_true rfl⟩) r709 (by decide) rfl rfl rfl rfl (Nat.le_of_ble_eq_true rfl) dL_law_488 ⟨by show cells + 2 + 0 ≤ 601024; omega, by show slots + 12 + 0 ≤ 7293034; omega⟩ (fun v9 u2 hv9 => ?_)
  obtain ⟨b9, rfl, hcc, ho, hI⟩ := hq9 _ _ _ hv9
  refine g_istore F (lv2 := [(6, _), (5, _), (4, _), (0, _), (1, _), (2, _), (3, _)]) dL_law_491 (by decide) rfl ?_
  refine g_aload_n F dL_law_493 rfl 5 rfl ?_
  refine g_callV F (kX9_thrown l) (cwV 0 F.1.2.2.2.2 gL_law_X9_thrown rfl rfl rfl (by decide +kernel) ⟨Nat.le_of_ble_eq_true rfl, Nat.le_of_ble_eq_true rfl⟩) r709 (by decide) rfl rfl rfl rfl (Nat.le_of_ble_eq_true rfl) dL_law_494 ⟨by show cells + 2 + 0 ≤ 601024; omega, by show slots + 12 + 0 ≤ 7293034; omega⟩ (g_det ?_)
  refine g_iload F dL_law_497 1 rfl ?_
  refine g_icmp_eq F 504 dL_law_499 (by decide) (fun h1 => ?_) (fun h1 => absurd hcc h1)
  refine g_iload F dL_law_504 1 rfl ?_
  refine g_if_ne F 521 dL_law_506 (by decide) (fun h1 => ?_) (fun h1 => ?_)
  · refine g_goto F 2438 dL_law_521 (by decide) ?_
    refine g_lv (lv2 := [(4, .int (nI (6 * j))), (0, .ref b), (1, .ref (B + 0)), (2, .ref (B + 709)), (3, .ref (B + 717))]) [2, 3, 4, 5, 6] rfl ?_
    refine g_widen (k := cells + 61) (n := slots + 366) (by show cells + 2 ≤ cells + 61; omega) (by show slots + 12 ≤ slots + 366; omega) ?_
    exact kk _ _ hI
  · refine g_aload_n F dL_law_509 rfl 6 rfl ?_
    refine g_iconst F (v := 0) dL_law_510 (by decide) ?_
    refine g_outld F hL dL_law_511 ?_
    refine g_iload F dL_law_512 0 rfl ?_
    refine g_i2l F dL_law_514 ?_
    refine g_lcmp F dL_law_515 ?_
    refine g_if_eq F 521 dL_law_516 (by decide) (fun h2 => ?_) (fun h2 => absurd (lg_eq0.mpr (ho h1)) h2)
    refine g_goto F 2438 dL_law_521 (by decide) ?_
    refine g_lv (lv2 := [(4, .int (nI (6 * j))), (0, .ref b), (1, .ref (B + 0)), (2, .ref (B + 709)), (3, .ref (B + 717))]) [2, 3, 4, 5, 6] rfl ?_
    refine g_widen (k := cells + 61) (n := slots + 366) (by show cells + 2 ≤ cells + 61; omega) (by show slots + 12 ≤ slots + 366; omega) ?_
    exact kk _ _ hI
set_option maxHeartbeats 2000000 in
set_option maxRecDepth 100000 in
theorem law_c4 (hls : l.stackTraces = false) (F : Fx p room_1 s m args meth c cL_law 7 wsL_law RL D ca (AB B)) (hN : Nc3 s) (hL : va_K D vwCl [(cl, .long)] s) (hX : va_X b L xs s s.heap) (hb : b < s.heap.size) (hbA : ¬ AB B b) (hL9 : L ≤ 3072) (hj : 6 * j + 5 < L) (I : INV M) (hc : cells + 61 ≤ 601024) (hs : slots + 366 ≤ 7293034) (kk : ∀ (o' : Nat → Int64) (M' : Mm), INV M' → G p l e room_1 s m args below meth c Q D ca B (TL cl B o') (AB B) 7 (cells + 61) (slots + 366) M' 2438 [(4, .int (nI (6 * j))), (0, .ref b), (1, .ref (B + 0)), (2, .ref (B + 709)), (3, .ref (B + 717))] []) : G p l e room_1 s m args below meth c Q D ca B (TL cl B o) (AB B) 7 (cells) (slots) M 524 [(4, .int (nI (6 * j))), (0, .ref b), (1, .ref (B + 0)), (2, .ref (B + 709)), (3, .ref (B + 717))] [] := by
  refine g_aload_n F dL_law_524 rfl 2 rfl ?_
  refine g_aload_n F dL_law_525 rfl 1 rfl ?_
  refine g_iload F dL_law_526 0 rfl ?_
  refine g_iconst F (v := 1) dL_law_528 (by decide) ?_
  refine g_iadd F dL_law_529 ?_
  refine g_sld F hX hb hbA (6 * j + 1) (nI_ad (6 * j) 1) (by omega) hL9 dL_law_530 ?_
  refine g_aload_n F dL_law_531 rfl 1 rfl ?_
  refine g_iload F dL_law_532 0 rfl ?_
  refine g_iconst F (v := 2) dL_law_534 (by decide) ?_
  refine g_iadd F dL_law_535 ?_
  refine g_sld F hX hb hbA (6 * j + 2) (nI_ad (6 * j) 2) (by omega) hL9 dL_law_536 ?_
  refine g_aload_n F dL_law_537 rfl 4 rfl ?_
  refine g_callW F hN hL (S_setLimit l hls I (xs (6 * j + 1)) (xs (6 * j + 2))) (vx_cwSW 4 F.1.2.2.2.2 gL_law_L_setLimit rfl rfl rfl (by decide +kernel) ⟨Nat.le_of_ble_eq_true rfl, Nat.le_of_ble_eq_true rfl⟩) rfl rfl rfl (Nat.le_of_ble_eq_true rfl) dL_law_538 ⟨by show cells + 1 ≤ 601024; omega, by show slots + 6 ≤ 7293034; omega⟩ (fun k9 o9 u9 hu9 => ?_)
  obtain ⟨post9, hM9, hq9⟩ := hu9
  refine g_istore F (lv2 := [(5, _), (4, _), (0, _), (1, _), (2, _), (3, _)]) dL_law_541 (by decide) rfl ?_
  refine g_aload_n F dL_law_543 rfl 4 rfl ?_
  refine g_aload_n F dL_law_544 rfl 2 rfl ?_
  refine g_iload F dL_law_545 1 rfl ?_
  refine g_iconst F (v := 1) dL_law_547 (by decide) ?_
  refine g_iadd F dL_law_548 ?_
  refine g_sld F hX hb hbA (6 * j + 1) (nI_ad (6 * j) 1) (by omega) hL9 dL_law_549 ?_
  refine g_aload_n F dL_law_550 rfl 2 rfl ?_
  refine g_iload F dL_law_551 1 rfl ?_
  refine g_iconst F (v := 2) dL_law_553 (by decide) ?_
  refine g_iadd F dL_law_554 ?_
  refine g_sld F hX hb hbA (6 * j + 2) (nI_ad (6 * j) 2) (by omega) hL9 dL_law_555 ?_
  refine g_callV F hM9 (cwV 2 F.1.2.2.2.2 gL_law_X9_setLimit rfl rfl rfl (by decide +kernel) ⟨Nat.le_of_ble_eq_true rfl, Nat.le_of_ble_eq_true rfl⟩) r709 (by decide) rfl rfl rfl rfl (Nat.le_of_ble_eq_true rfl) dL_law_556 ⟨by show cells + 1 + 0 ≤ 601024; omega, by show slots + 6 + 0 ≤ 7293034; omega⟩ (fun v9 u2 hv9 => ?_)
  obtain ⟨b9, rfl, hcc, ho, hI⟩ := hq9 _ _ _ hv9
  refine g_istore F (lv2 := [(6, _), (5, _), (4, _), (0, _), (1, _), (2, _), (3, _)]) dL_law_559 (by decide) rfl ?_
  refine g_aload_n F dL_law_561 rfl 5 rfl ?_
  refine g_callV F (kX9_thrown l) (cwV 0 F.1.2.2.2.2 gL_law_X9_thrown rfl rfl rfl (by decide +kernel) ⟨Nat.le_of_ble_eq_true rfl, Nat.le_of_ble_eq_true rfl⟩) r709 (by decide) rfl rfl rfl rfl (Nat.le_of_ble_eq_true rfl) dL_law_562 ⟨by show cells + 1 + 0 ≤ 601024; omega, by show slots + 6 + 0 ≤ 7293034; omega⟩ (g_det ?_)
  refine g_iload F dL_law_565 1 rfl ?_
  refine g_icmp_eq F 572 dL_law_567 (by decide) (fun h1 => ?_) (fun h1 => absurd hcc h1)
  refine g_iload F dL_law_572 1 rfl ?_
  refine g_if_ne F 589 dL_law_574 (by decide) (fun h1 => ?_) (fun h1 => ?_)
  · refine g_goto F 2438 dL_law_589 (by decide) ?_
    refine g_lv (lv2 := [(4, .int (nI (6 * j))), (0, .ref b), (1, .ref (B + 0)), (2, .ref (B + 709)), (3, .ref (B + 717))]) [2, 3, 4, 5, 6] rfl ?_
    refine g_widen (k := cells + 61) (n := slots + 366) (by show cells + 1 ≤ cells + 61; omega) (by show slots + 6 ≤ slots + 366; omega) ?_
    exact kk _ _ hI
  · refine g_aload_n F dL_law_577 rfl 6 rfl ?_
    refine g_iconst F (v := 0) dL_law_578 (by decide) ?_
    refine g_outld F hL dL_law_579 ?_
    refine g_iload F dL_law_580 0 rfl ?_
    refine g_i2l F dL_law_582 ?_
    refine g_lcmp F dL_law_583 ?_
    refine g_if_eq F 589 dL_law_584 (by decide) (fun h2 => ?_) (fun h2 => absurd (lg_eq0.mpr (ho h1)) h2)
    refine g_goto F 2438 dL_law_589 (by decide) ?_
    refine g_lv (lv2 := [(4, .int (nI (6 * j))), (0, .ref b), (1, .ref (B + 0)), (2, .ref (B + 709)), (3, .ref (B + 717))]) [2, 3, 4, 5, 6] rfl ?_
    refine g_widen (k := cells + 61) (n := slots + 366) (by show cells + 1 ≤ cells + 61; omega) (by show slots + 6 ≤ slots + 366; omega) ?_
    exact kk _ _ hI
set_option maxHeartbeats 2000000 in
set_option maxRecDepth 100000 in
theorem law_c5 (hls : l.stackTraces = false) (F : Fx p room_1 s m args meth c cL_law 7 wsL_law RL D ca (AB B)) (hN : Nc3 s) (hL : va_K D vwCl [(cl, .long)] s) (hX : va_X b L xs s s.heap) (hb : b < s.heap.size) (hbA : ¬ AB B b) (hL9 : L ≤ 3072) (hj : 6 * j + 5 < L) (I : INV M) (hc : cells + 61 ≤ 601024) (hs : slots + 366 ≤ 7293034) (kk : ∀ (o' : Nat → Int64) (M' : Mm), INV M' → G p l e room_1 s m args below meth c Q D ca B (TL cl B o') (AB B) 7 (cells + 61) (slots + 366) M' 2438 [(4, .int (nI (6 * j))), (0, .ref b), (1, .ref (B + 0)), (2, .ref (B + 709)), (3, .ref (B + 717))] []) : G p l e room_1 s m args below meth c Q D ca B (TL cl B o) (AB B) 7 (cells) (slots) M 592 [(4, .int (nI (6 * j))), (0, .ref b), (1, .ref (B + 0)), (2, .ref (B + 709)), (3, .ref (B + 717))] [] := by
  refine g_aload_n F dL_law_592 rfl 2 rfl ?_
  refine g_aload_n F dL_law_593 rfl 1 rfl ?_
  refine g_iload F dL_law_594 0 rfl ?_
  refine g_iconst F (v := 1) dL_law_596 (by decide) ?_
  refine g_iadd F dL_law_597 ?_
  refine g_sld F hX hb hbA (6 * j + 1) (nI_ad (6 * j) 1) (by omega) hL9 dL_law_598 ?_
  refine g_aload_n F dL_law_599 rfl 4 rfl ?_
  refine g_callW F hN hL (S_pass l hls I (xs (6 * j + 1))) (vx_cwSW 3 F.1.2.2.2.2 gL_law_L_pass rfl rfl rfl (by decide +kernel) ⟨Nat.le_of_ble_eq_true rfl, Nat.le_of_ble_eq_true rfl⟩) rfl rfl rfl (Nat.le_of_ble_eq_true rfl) dL_law_600 ⟨by show cells + 1 ≤ 601024; omega, by show slots + 6 ≤ 7293034; omega⟩ (fun k9 o9 u9 hu9 => ?_)
  obtain ⟨post9, hM9, hq9⟩ := hu9
  refine g_istore F (lv2 := [(5, _), (4, _), (0, _), (1, _), (2, _), (3, _)]) dL_law_603 (by decide) rfl ?_
  refine g_aload_n F dL_law_605 rfl 4 rfl ?_
  refine g_aload_n F dL_law_606 rfl 2 rfl ?_
  refine g_iload F dL_law_607 1 rfl ?_
  refine g_iconst F (v := 1) dL_law_609 (by decide) ?_
  refine g_iadd F dL_law_610 ?_
  refine g_sld F hX hb hbA (6 * j + 1) (nI_ad (6 * j) 1) (by omega) hL9 dL_law_611 ?_
  refine g_callV F hM9 (cwV 1 F.1.2.2.2.2 gL_law_X9_pass rfl rfl rfl (by decide +kernel) ⟨Nat.le_of_ble_eq_true rfl, Nat.le_of_ble_eq_true rfl⟩) r709 (by decide) rfl rfl rfl rfl (Nat.le_of_ble_eq_true rfl) dL_law_612 ⟨by show cells + 1 + 0 ≤ 601024; omega, by show slots + 6 + 0 ≤ 7293034; omega⟩ (fun v9 u2 hv9 => ?_)
  obtain ⟨b9, rfl, hcc, ho, hI⟩ := hq9 _ _ _ hv9
  refine g_istore F (lv2 := [(6, _), (5, _), (4, _), (0, _), (1, _), (2, _), (3, _)]) dL_law_615 (by decide) rfl ?_
  refine g_aload_n F dL_law_617 rfl 5 rfl ?_
  refine g_callV F (kX9_thrown l) (cwV 0 F.1.2.2.2.2 gL_law_X9_thrown rfl rfl rfl (by decide +kernel) ⟨Nat.le_of_ble_eq_true rfl, Nat.le_of_ble_eq_true rfl⟩) r709 (by decide) rfl rfl rfl rfl (Nat.le_of_ble_eq_true rfl) dL_law_618 ⟨by show cells + 1 + 0 ≤ 601024; omega, by show slots + 6 + 0 ≤ 7293034; omega⟩ (g_det ?_)
  refine g_iload F dL_law_621 1 rfl ?_
  refine g_icmp_eq F 628 dL_law_623 (by decide) (fun h1 => ?_) (fun h1 => absurd hcc h1)
  refine g_iload F dL_law_628 1 rfl ?_
  refine g_if_ne F 645 dL_law_630 (by decide) (fun h1 => ?_) (fun h1 => ?_)
  · refine g_goto F 2438 dL_law_645 (by decide) ?_
    refine g_lv (lv2 := [(4, .int (nI (6 * j))), (0, .ref b), (1, .ref (B + 0)), (2, .ref (B + 709)), (3, .ref (B + 717))]) [2, 3, 4, 5, 6] rfl ?_
    refine g_widen (k := cells + 61) (n := slots + 366) (by show cells + 1 ≤ cells + 61; omega) (by show slots + 6 ≤ slots + 366; omega) ?_
    exact kk _ _ hI
  · refine g_aload_n F dL_law_633 rfl 6 rfl ?_
    refine g_iconst F (v := 0) dL_law_634 (by decide) ?_
    refine g_outld F hL dL_law_635 ?_
    refine g_iload F dL_law_636 0 rfl ?_
    refine g_i2l F dL_law_638 ?_
    refine g_lcmp F dL_law_639 ?_
    refine g_if_eq F 645 dL_law_640 (by decide) (fun h2 => ?_) (fun h2 => absurd (lg_eq0.mpr (ho h1)) h2)
    refine g_goto F 2438 dL_law_645 (by decide) ?_
    refine g_lv (lv2 := [(4, .int (nI (6 * j))), (0, .ref b), (1, .ref (B + 0)), (2, .ref (B + 709)), (3, .ref (B + 717))]) [2, 3, 4, 5, 6] rfl ?_
    refine g_widen (k := cells + 61) (n := slots + 366) (by show cells + 1 ≤ cells + 61; omega) (by show slots + 6 ≤ slots + 366; omega) ?_
    exact kk _ _ hI
set_option maxHeartbeats 2000000 in
set_option maxRecDepth 100000 in
theorem law_c6 (hls : l.stackTraces = false) (F : Fx p room_1 s m args meth c cL_law 7 wsL_law RL D ca (AB B)) (hN : Nc3 s) (hL : va_K D vwCl [(cl, .long)] s) (hX : va_X b L xs s s.heap) (hb : b < s.heap.size) (hbA : ¬ AB B b) (hL9 : L ≤ 3072) (hj : 6 * j + 5 < L) (I : INV M) (hc : cells + 61 ≤ 601024) (hs : slots + 366 ≤ 7293034) (kk : ∀ (o' : Nat → Int64) (M' : Mm), INV M' → G p l e room_1 s m args below meth c Q D ca B (TL cl B o') (AB B) 7 (cells + 61) (slots + 366) M' 2438 [(4, .int (nI (6 * j))), (0, .ref b), (1, .ref (B + 0)), (2, .ref (B + 709)), (3, .ref (B + 717))] []) : G p l e room_1 s m args below meth c Q D ca B (TL cl B o) (AB B) 7 (cells) (slots) M 648 [(4, .int (nI (6 * j))), (0, .ref b), (1, .ref (B + 0)), (2, .ref (B + 709)), (3, .ref (B + 717))] [] := by
  refine g_aload_n F dL_law_648 rfl 2 rfl ?_
  refine g_aload_n F dL_law_649 rfl 1 rfl ?_
  refine g_iload F dL_law_650 0 rfl ?_
  refine g_iconst F (v := 1) dL_law_652 (by decide) ?_
  refine g_iadd F dL_law_653 ?_
  refine g_sld F hX hb hbA (6 * j + 1) (nI_ad (6 * j) 1) (by omega) hL9 dL_law_654 ?_
  refine g_aload_n F dL_law_655 rfl 4 rfl ?_
  refine g_callW F hN hL (S_appeal l hls I (xs (6 * j + 1))) (vx_cwSW 3 F.1.2.2.2.2 gL_law_L_appeal rfl rfl rfl (by decide +kernel) ⟨Nat.le_of_ble_eq_true rfl, Nat.le_of_ble_eq_true rfl⟩) rfl rfl rfl (Nat.le_of_ble_eq_true rfl) dL_law_656 ⟨by show cells + 2 ≤ 601024; omega, by show slots + 12 ≤ 7293034; omega⟩ (fun k9 o9 u9 hu9 => ?_)
  obtain ⟨post9, hM9, hq9⟩ := hu9
  refine g_istore F (lv2 := [(5, _), (4, _), (0, _), (1, _), (2, _), (3, _)]) dL_law_659 (by decide) rfl ?_
  refine g_aload_n F dL_law_661 rfl 4 rfl ?_
  refine g_aload_n F dL_law_662 rfl 2 rfl ?_
  refine g_iload F dL_law_663 1 rfl ?_
  refine g_iconst F (v := 1) dL_law_665 (by decide) ?_
  refine g_iadd F dL_law_666 ?_
  refine g_sld F hX hb hbA (6 * j + 1) (nI_ad (6 * j) 1) (by omega) hL9 dL_law_667 ?_
  refine g_callV F hM9 (cwV 1 F.1.2.2.2.2 gL_law_X9_appeal rfl rfl rfl (by decide +kernel) ⟨Nat.le_of_ble_eq_true rfl, Nat.le_of_ble_eq_true rfl⟩) r709 (by decide) rfl rfl rfl rfl (Nat.le_of_ble_eq_true rfl) dL_law_668 ⟨by show cells + 2 + 0 ≤ 601024; omega, by show slots + 12 + 0 ≤ 7293034; omega⟩ (fun v9 u2 hv9 => ?_)
  obtain ⟨b9, rfl, hcc, ho, hI⟩ := hq9 _ _ _ hv9
  refine g_istore F (lv2 := [(6, _), (5, _), (4, _), (0, _), (1, _), (2, _), (3, _)]) dL_law_671 (by decide) rfl ?_
  refine g_aload_n F dL_law_673 rfl 5 rfl ?_
  refine g_callV F (kX9_thrown l) (cwV 0 F.1.2.2.2.2 gL_law_X9_thrown rfl rfl rfl (by decide +kernel) ⟨Nat.le_of_ble_eq_true rfl, Nat.le_of_ble_eq_true rfl⟩) r709 (by decide) rfl rfl rfl rfl (Nat.le_of_ble_eq_true rfl) dL_law_674 ⟨by show cells + 2 + 0 ≤ 601024; omega, by show slots + 12 + 0 ≤ 7293034; omega⟩ (g_det ?_)
  refine g_iload F dL_law_677 1 rfl ?_
  refine g_icmp_eq F 684 dL_law_679 (by decide) (fun h1 => ?_) (fun h1 => absurd hcc h1)
  refine g_iload F dL_law_684 1 rfl ?_
  refine g_if_ne F 708 dL_law_686 (by decide) (fun h1 => ?_) (fun h1 => ?_)
  · refine g_goto F 2438 dL_law_708 (by decide) ?_
    refine g_lv (lv2 := [(4, .int (nI (6 * j))), (0, .ref b), (1, .ref (B + 0)), (2, .ref (B + 709)), (3, .ref (B + 717))]) [2, 3, 4, 5, 6] rfl ?_
    refine g_widen (k := cells + 61) (n := slots + 366) (by show cells + 2 ≤ cells + 61; omega) (by show slots + 12 ≤ slots + 366; omega) ?_
    exact kk _ _ hI
  · refine g_aload_n F dL_law_689 rfl 6 rfl ?_
    refine g_iconst F (v := 0) dL_law_690 (by decide) ?_
    refine g_outld F hL dL_law_691 ?_
    refine g_iload F dL_law_692 0 rfl ?_
    refine g_if_eq F 701 dL_law_694 (by decide) (fun h3 => ?_) (fun h3 => ?_)
    · refine g_lconst F (v := 0) dL_law_701 (by decide) ?_
      refine g_lcmp F dL_law_702 ?_
      refine g_if_eq F 708 dL_law_703 (by decide) (fun h2 => ?_) (fun h2 => absurd (lg_eq0.mpr ((ho h1).trans (bL_0 h3))) h2)
      refine g_goto F 2438 dL_law_708 (by decide) ?_
      refine g_lv (lv2 := [(4, .int (nI (6 * j))), (0, .ref b), (1, .ref (B + 0)), (2, .ref (B + 709)), (3, .ref (B + 717))]) [2, 3, 4, 5, 6] rfl ?_
      refine g_widen (k := cells + 61) (n := slots + 366) (by show cells + 2 ≤ cells + 61; omega) (by show slots + 12 ≤ slots + 366; omega) ?_
      exact kk _ _ hI
    · refine g_lconst F (v := 1) dL_law_697 (by decide) ?_
      refine g_goto F 702 dL_law_698 (by decide) ?_
      refine g_lcmp F dL_law_702 ?_
      refine g_if_eq F 708 dL_law_703 (by decide) (fun h2 => ?_) (fun h2 => absurd (lg_eq0.mpr ((ho h1).trans (bL_1 h3))) h2)
      refine g_goto F 2438 dL_law_708 (by decide) ?_
      refine g_lv (lv2 := [(4, .int (nI (6 * j))), (0, .ref b), (1, .ref (B + 0)), (2, .ref (B + 709)), (3, .ref (B + 717))]) [2, 3, 4, 5, 6] rfl ?_
      refine g_widen (k := cells + 61) (n := slots + 366) (by show cells + 2 ≤ cells + 61; omega) (by show slots + 12 ≤ slots + 366; omega) ?_
      exact kk _ _ hI
set_option maxHeartbeats 2000000 in
set_option maxRecDepth 100000 in
theorem law_c7 (hls : l.stackTraces = false) (F : Fx p room_1 s m args meth c cL_law 7 wsL_law RL D ca (AB B)) (hN : Nc3 s) (hL : va_K D vwCl [(cl, .long)] s) (hX : va_X b L xs s s.heap) (hb : b < s.heap.size) (hbA : ¬ AB B b) (hL9 : L ≤ 3072) (hj : 6 * j + 5 < L) (I : INV M) (hc : cells + 61 ≤ 601024) (hs : slots + 366 ≤ 7293034) (kk : ∀ (o' : Nat → Int64) (M' : Mm), INV M' → G p l e room_1 s m args below meth c Q D ca B (TL cl B o') (AB B) 7 (cells + 61) (slots + 366) M' 2438 [(4, .int (nI (6 * j))), (0, .ref b), (1, .ref (B + 0)), (2, .ref (B + 709)), (3, .ref (B + 717))] []) : G p l e room_1 s m args below meth c Q D ca B (TL cl B o) (AB B) 7 (cells) (slots) M 711 [(4, .int (nI (6 * j))), (0, .ref b), (1, .ref (B + 0)), (2, .ref (B + 709)), (3, .ref (B + 717))] [] := by
  refine g_aload_n F dL_law_711 rfl 2 rfl ?_
  refine g_aload_n F dL_law_712 rfl 4 rfl ?_
  refine g_callW F hN hL (S_read l hls I ) (vx_cwSW 2 F.1.2.2.2.2 gL_law_L_read rfl rfl rfl (by decide +kernel) ⟨Nat.le_of_ble_eq_true rfl, Nat.le_of_ble_eq_true rfl⟩) rfl rfl rfl (Nat.le_of_ble_eq_true rfl) dL_law_713 ⟨by show cells + 61 ≤ 601024; omega, by show slots + 366 ≤ 7293034; omega⟩ (fun k9 o9 u9 hu9 => ?_)
  obtain ⟨post9, hM9, hq9⟩ := hu9
  refine g_istore F (lv2 := [(5, _), (4, _), (0, _), (1, _), (2, _), (3, _)]) dL_law_716 (by decide) rfl ?_
  refine g_aload_n F dL_law_718 rfl 4 rfl ?_
  refine g_callV F hM9 (cwV 0 F.1.2.2.2.2 gL_law_X9_read rfl rfl rfl (by decide +kernel) ⟨Nat.le_of_ble_eq_true rfl, Nat.le_of_ble_eq_true rfl⟩) r709 (by decide) rfl rfl rfl rfl (Nat.le_of_ble_eq_true rfl) dL_law_719 ⟨by show cells + 61 + 0 ≤ 601024; omega, by show slots + 366 + 0 ≤ 7293034; omega⟩ (fun v9 u2 hv9 => ?_)
  obtain ⟨b9, rfl, hcc, ho, hI⟩ := hq9 _ _ _ hv9
  refine g_istore F (lv2 := [(6, _), (5, _), (4, _), (0, _), (1, _), (2, _), (3, _)]) dL_law_722 (by decide) rfl ?_
  refine g_aload_n F dL_law_724 rfl 5 rfl ?_
  refine g_callV F (kX9_thrown l) (cwV 0 F.1.2.2.2.2 gL_law_X9_thrown rfl rfl rfl (by decide +kernel) ⟨Nat.le_of_ble_eq_true rfl, Nat.le_of_ble_eq_true rfl⟩) r709 (by decide) rfl rfl rfl rfl (Nat.le_of_ble_eq_true rfl) dL_law_725 ⟨by show cells + 61 + 0 ≤ 601024; omega, by show slots + 366 + 0 ≤ 7293034; omega⟩ (g_det ?_)
  refine g_iload F dL_law_728 1 rfl ?_
  refine g_icmp_eq F 735 dL_law_730 (by decide) (fun h1 => ?_) (fun h1 => absurd hcc h1)
  refine g_iload F dL_law_735 1 rfl ?_
  refine g_if_ne F 752 dL_law_737 (by decide) (fun h1 => ?_) (fun h1 => ?_)
  · refine g_goto F 2438 dL_law_752 (by decide) ?_
    refine g_lv (lv2 := [(4, .int (nI (6 * j))), (0, .ref b), (1, .ref (B + 0)), (2, .ref (B + 709)), (3, .ref (B + 717))]) [2, 3, 4, 5, 6] rfl ?_
    refine g_widen (k := cells + 61) (n := slots + 366) (by show cells + 61 ≤ cells + 61; omega) (by show slots + 366 ≤ slots + 366; omega) ?_
    exact kk _ _ hI
  · refine g_aload_n F dL_law_740 rfl 6 rfl ?_
    refine g_iconst F (v := 0) dL_law_741 (by decide) ?_
    refine g_outld F hL dL_law_742 ?_
    refine g_iload F dL_law_743 0 rfl ?_
    refine g_i2l F dL_law_745 ?_
    refine g_lcmp F dL_law_746 ?_
    refine g_if_eq F 752 dL_law_747 (by decide) (fun h2 => ?_) (fun h2 => absurd (lg_eq0.mpr (ho h1)) h2)
    refine g_goto F 2438 dL_law_752 (by decide) ?_
    refine g_lv (lv2 := [(4, .int (nI (6 * j))), (0, .ref b), (1, .ref (B + 0)), (2, .ref (B + 709)), (3, .ref (B + 717))]) [2, 3, 4, 5, 6] rfl ?_
    refine g_widen (k := cells + 61) (n := slots + 366) (by show cells + 61 ≤ cells + 61; omega) (by show slots + 366 ≤ slots + 366; omega) ?_
    exact kk _ _ hI
set_option maxHeartbeats 2000000 in
set_option maxRecDepth 100000 in
theorem law_c8 (hls : l.stackTraces = false) (F : Fx p room_1 s m args meth c cL_law 7 wsL_law RL D ca (AB B)) (hN : Nc3 s) (hL : va_K D vwCl [(cl, .long)] s) (hX : va_X b L xs s s.heap) (hb : b < s.heap.size) (hbA : ¬ AB B b) (hL9 : L ≤ 3072) (hj : 6 * j + 5 < L) (I : INV M) (hc : cells + 61 ≤ 601024) (hs : slots + 366 ≤ 7293034) (kk : ∀ (o' : Nat → Int64) (M' : Mm), INV M' → G p l e room_1 s m args below meth c Q D ca B (TL cl B o') (AB B) 7 (cells + 61) (slots + 366) M' 2438 [(4, .int (nI (6 * j))), (0, .ref b), (1, .ref (B + 0)), (2, .ref (B + 709)), (3, .ref (B + 717))] []) : G p l e room_1 s m args below meth c Q D ca B (TL cl B o) (AB B) 7 (cells) (slots) M 755 [(4, .int (nI (6 * j))), (0, .ref b), (1, .ref (B + 0)), (2, .ref (B + 709)), (3, .ref (B + 717))] [] := by
  refine g_aload_n F dL_law_755 rfl 2 rfl ?_
  refine g_aload_n F dL_law_756 rfl 1 rfl ?_
  refine g_iload F dL_law_757 0 rfl ?_
  refine g_iconst F (v := 1) dL_law_759 (by decide) ?_
  refine g_iadd F dL_law_760 ?_
  refine g_sld F hX hb hbA (6 * j + 1) (nI_ad (6 * j) 1) (by omega) hL9 dL_law_761 ?_
  refine g_aload_n F dL_law_762 rfl 1 rfl ?_
  refine g_iload F dL_law_763 0 rfl ?_
  refine g_iconst F (v := 2) dL_law_765 (by decide) ?_
  refine g_iadd F dL_law_766 ?_
  refine g_sld F hX hb hbA (6 * j + 2) (nI_ad (6 * j) 2) (by omega) hL9 dL_law_767 ?_
  refine g_aload_n F dL_law_768 rfl 4 rfl ?_
  refine g_callW F hN hL (S_shadeOf l hls I (xs (6 * j + 1)) (xs (6 * j + 2))) (vx_cwSW 4 F.1.2.2.2.2 gL_law_L_shadeOf rfl rfl rfl (by decide +kernel) ⟨Nat.le_of_ble_eq_true rfl, Nat.le_of_ble_eq_true rfl⟩) rfl rfl rfl (Nat.le_of_ble_eq_true rfl) dL_law_769 ⟨by show cells + 2 ≤ 601024; omega, by show slots + 12 ≤ 7293034; omega⟩ (fun k9 o9 u9 hu9 => ?_)
  obtain ⟨post9, hM9, hq9⟩ := hu9
  refine g_istore F (lv2 := [(5, _), (4, _), (0, _), (1, _), (2, _), (3, _)]) dL_law_772 (by decide) rfl ?_
  refine g_aload_n F dL_law_774 rfl 4 rfl ?_
  refine g_aload_n F dL_law_775 rfl 2 rfl ?_
  refine g_iload F dL_law_776 1 rfl ?_
  refine g_iconst F (v := 1) dL_law_778 (by decide) ?_
  refine g_iadd F dL_law_779 ?_
  refine g_sld F hX hb hbA (6 * j + 1) (nI_ad (6 * j) 1) (by omega) hL9 dL_law_780 ?_
  refine g_aload_n F dL_law_781 rfl 2 rfl ?_
  refine g_iload F dL_law_782 1 rfl ?_
  refine g_iconst F (v := 2) dL_law_784 (by decide) ?_
  refine g_iadd F dL_law_785 ?_
  refine g_sld F hX hb hbA (6 * j + 2) (nI_ad (6 * j) 2) (by omega) hL9 dL_law_786 ?_
  refine g_callV F hM9 (cwV 2 F.1.2.2.2.2 gL_law_X9_shadeOf rfl rfl rfl (by decide +kernel) ⟨Nat.le_of_ble_eq_true rfl, Nat.le_of_ble_eq_true rfl⟩) r709 (by decide) rfl rfl rfl rfl (Nat.le_of_ble_eq_true rfl) dL_law_787 ⟨by show cells + 2 + 0 ≤ 601024; omega, by show slots + 12 + 0 ≤ 7293034; omega⟩ (fun v9 u2 hv9 => ?_)
  obtain ⟨b9, rfl, hcc, ho, hI⟩ := hq9 _ _ _ hv9
  refine g_istore F (lv2 := [(6, _), (5, _), (4, _), (0, _), (1, _), (2, _), (3, _)]) dL_law_790 (by decide) rfl ?_
  refine g_aload_n F dL_law_792 rfl 5 rfl ?_
  refine g_callV F (kX9_thrown l) (cwV 0 F.1.2.2.2.2 gL_law_X9_thrown rfl rfl rfl (by decide +kernel) ⟨Nat.le_of_ble_eq_true rfl, Nat.le_of_ble_eq_true rfl⟩) r709 (by decide) rfl rfl rfl rfl (Nat.le_of_ble_eq_true rfl) dL_law_793 ⟨by show cells + 2 + 0 ≤ 601024; omega, by show slots + 12 + 0 ≤ 7293034; omega⟩ (g_det ?_)
  refine g_iload F dL_law_796 1 rfl ?_
  refine g_icmp_eq F 803 dL_law_798 (by decide) (fun h1 => ?_) (fun h1 => absurd hcc h1)
  refine g_iload F dL_law_803 1 rfl ?_
  refine g_if_ne F 820 dL_law_805 (by decide) (fun h1 => ?_) (fun h1 => ?_)
  · refine g_goto F 2438 dL_law_820 (by decide) ?_
    refine g_lv (lv2 := [(4, .int (nI (6 * j))), (0, .ref b), (1, .ref (B + 0)), (2, .ref (B + 709)), (3, .ref (B + 717))]) [2, 3, 4, 5, 6] rfl ?_
    refine g_widen (k := cells + 61) (n := slots + 366) (by show cells + 2 ≤ cells + 61; omega) (by show slots + 12 ≤ slots + 366; omega) ?_
    exact kk _ _ hI
  · refine g_aload_n F dL_law_808 rfl 6 rfl ?_
    refine g_iconst F (v := 0) dL_law_809 (by decide) ?_
    refine g_outld F hL dL_law_810 ?_
    refine g_iload F dL_law_811 0 rfl ?_
    refine g_i2l F dL_law_813 ?_
    refine g_lcmp F dL_law_814 ?_
    refine g_if_eq F 820 dL_law_815 (by decide) (fun h2 => ?_) (fun h2 => absurd (lg_eq0.mpr (ho h1)) h2)
    refine g_goto F 2438 dL_law_820 (by decide) ?_
    refine g_lv (lv2 := [(4, .int (nI (6 * j))), (0, .ref b), (1, .ref (B + 0)), (2, .ref (B + 709)), (3, .ref (B + 717))]) [2, 3, 4, 5, 6] rfl ?_
    refine g_widen (k := cells + 61) (n := slots + 366) (by show cells + 2 ≤ cells + 61; omega) (by show slots + 12 ≤ slots + 366; omega) ?_
    exact kk _ _ hI
set_option maxHeartbeats 2000000 in
set_option maxRecDepth 100000 in
theorem law_c9 (hls : l.stackTraces = false) (F : Fx p room_1 s m args meth c cL_law 7 wsL_law RL D ca (AB B)) (hN : Nc3 s) (hL : va_K D vwCl [(cl, .long)] s) (hX : va_X b L xs s s.heap) (hb : b < s.heap.size) (hbA : ¬ AB B b) (hL9 : L ≤ 3072) (hj : 6 * j + 5 < L) (I : INV M) (hc : cells + 61 ≤ 601024) (hs : slots + 366 ≤ 7293034) (kk : ∀ (o' : Nat → Int64) (M' : Mm), INV M' → G p l e room_1 s m args below meth c Q D ca B (TL cl B o') (AB B) 7 (cells + 61) (slots + 366) M' 2438 [(4, .int (nI (6 * j))), (0, .ref b), (1, .ref (B + 0)), (2, .ref (B + 709)), (3, .ref (B + 717))] []) : G p l e room_1 s m args below meth c Q D ca B (TL cl B o) (AB B) 7 (cells) (slots) M 823 [(4, .int (nI (6 * j))), (0, .ref b), (1, .ref (B + 0)), (2, .ref (B + 709)), (3, .ref (B + 717))] [] := by
  refine g_aload_n F dL_law_823 rfl 2 rfl ?_
  refine g_aload_n F dL_law_824 rfl 1 rfl ?_
  refine g_iload F dL_law_825 0 rfl ?_
  refine g_iconst F (v := 1) dL_law_827 (by decide) ?_
  refine g_iadd F dL_law_828 ?_
  refine g_sld F hX hb hbA (6 * j + 1) (nI_ad (6 * j) 1) (by omega) hL9 dL_law_829 ?_
  refine g_aload_n F dL_law_830 rfl 1 rfl ?_
  refine g_iload F dL_law_831 0 rfl ?_
  refine g_iconst F (v := 2) dL_law_833 (by decide) ?_
  refine g_iadd F dL_law_834 ?_
  refine g_sld F hX hb hbA (6 * j + 2) (nI_ad (6 * j) 2) (by omega) hL9 dL_law_835 ?_
  refine g_aload_n F dL_law_836 rfl 4 rfl ?_
  refine g_callW F hN hL (S_nextStoking l hls I (xs (6 * j + 1)) (xs (6 * j + 2))) (vx_cwSW 4 F.1.2.2.2.2 gL_law_L_nextStoking rfl rfl rfl (by decide +kernel) ⟨Nat.le_of_ble_eq_true rfl, Nat.le_of_ble_eq_true rfl⟩) rfl rfl rfl (Nat.le_of_ble_eq_true rfl) dL_law_837 ⟨by show cells + 2 ≤ 601024; omega, by show slots + 12 ≤ 7293034; omega⟩ (fun k9 o9 u9 hu9 => ?_)
  obtain ⟨post9, hM9, hq9⟩ := hu9
  refine g_istore F (lv2 := [(5, _), (4, _), (0, _), (1, _), (2, _), (3, _)]) dL_law_840 (by decide) rfl ?_
  refine g_aload_n F dL_law_842 rfl 4 rfl ?_
  refine g_aload_n F dL_law_843 rfl 2 rfl ?_
  refine g_iload F dL_law_844 1 rfl ?_
  refine g_iconst F (v := 1) dL_law_846 (by decide) ?_
  refine g_iadd F dL_law_847 ?_
  refine g_sld F hX hb hbA (6 * j + 1) (nI_ad (6 * j) 1) (by omega) hL9 dL_law_848 ?_
  refine g_aload_n F dL_law_849 rfl 2 rfl ?_
  refine g_iload F dL_law_850 1 rfl ?_
  refine g_iconst F (v := 2) dL_law_852 (by decide) ?_
  refine g_iadd F dL_law_853 ?_
  refine g_sld F hX hb hbA (6 * j + 2) (nI_ad (6 * j) 2) (by omega) hL9 dL_law_854 ?_
  refine g_callV F hM9 (cwV 2 F.1.2.2.2.2 gL_law_X9_nextStoking rfl rfl rfl (by decide +kernel) ⟨Nat.le_of_ble_eq_true rfl, Nat.le_of_ble_eq_true rfl⟩) r709 (by decide) rfl rfl rfl rfl (Nat.le_of_ble_eq_true rfl) dL_law_855 ⟨by show cells + 2 + 0 ≤ 601024; omega, by show slots + 12 + 0 ≤ 7293034; omega⟩ (fun v9 u2 hv9 => ?_)
  obtain ⟨b9, rfl, hcc, ho, hI⟩ := hq9 _ _ _ hv9
  refine g_istore F (lv2 := [(6, _), (5, _), (4, _), (0, _), (1, _), (2, _), (3, _)]) dL_law_858 (by decide) rfl ?_
  refine g_aload_n F dL_law_860 rfl 5 rfl ?_
  refine g_callV F (kX9_thrown l) (cwV 0 F.1.2.2.2.2 gL_law_X9_thrown rfl rfl rfl (by decide +kernel) ⟨Nat.le_of_ble_eq_true rfl, Nat.le_of_ble_eq_true rfl⟩) r709 (by decide) rfl rfl rfl rfl (Nat.le_of_ble_eq_true rfl) dL_law_861 ⟨by show cells + 2 + 0 ≤ 601024; omega, by show slots + 12 + 0 ≤ 7293034; omega⟩ (g_det ?_)
  refine g_iload F dL_law_864 1 rfl ?_
  refine g_icmp_eq F 871 dL_law_866 (by decide) (fun h1 => ?_) (fun h1 => absurd hcc h1)
  refine g_iload F dL_law_871 1 rfl ?_
  refine g_if_ne F 888 dL_law_873 (by decide) (fun h1 => ?_) (fun h1 => ?_)
  · refine g_goto F 2438 dL_law_888 (by decide) ?_
    refine g_lv (lv2 := [(4, .int (nI (6 * j))), (0, .ref b), (1, .ref (B + 0)), (2, .ref (B + 709)), (3, .ref (B + 717))]) [2, 3, 4, 5, 6] rfl ?_
    refine g_widen (k := cells + 61) (n := slots + 366) (by show cells + 2 ≤ cells + 61; omega) (by show slots + 12 ≤ slots + 366; omega) ?_
    exact kk _ _ hI
  · refine g_aload_n F dL_law_876 rfl 6 rfl ?_
    refine g_iconst F (v := 0) dL_law_877 (by decide) ?_
    refine g_outld F hL dL_law_878 ?_
    refine g_iload F dL_law_879 0 rfl ?_
    refine g_i2l F dL_law_881 ?_
    refine g_lcmp F dL_law_882 ?_
    refine g_if_eq F 888 dL_law_883 (by decide) (fun h2 => ?_) (fun h2 => absurd (lg_eq0.mpr (ho h1)) h2)
    refine g_goto F 2438 dL_law_888 (by decide) ?_
    refine g_lv (lv2 := [(4, .int (nI (6 * j))), (0, .ref b), (1, .ref (B + 0)), (2, .ref (B + 709)), (3, .ref (B + 717))]) [2, 3, 4, 5, 6] rfl ?_
    refine g_widen (k := cells + 61) (n := slots + 366) (by show cells + 2 ≤ cells + 61; omega) (by show slots + 12 ≤ slots + 366; omega) ?_
    exact kk _ _ hI
end LAWC
