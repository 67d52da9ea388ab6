/-! what the law tells of the class, in one number -/
def tdA (f : Nat → Int32) (n : Nat) : Nat → Int64
  | 0 => 719
  | k + 1 => 31 * (31 * (31 * (31 * (31 * (31 * tdA f n k + (sumF (fun j => shR f k (nI j)) 0 96).toInt64) + (stF f k 0).toInt64) + (finR f (nI k) n).toInt64) + (cntR (rgR f k) (nI 0) 96).toInt64) + (lonR (rgR f k) (nI 2) 96).toInt64) + (cntR (rgR f k) (nI 4) 96).toInt64
def tdB (f : Nat → Int32) (v : Int64) : Nat → Int64
  | 0 => v
  | k + 1 => 31 * tdB f v k + (f (32 + k)).toInt64
def tdC (f : Nat → Int32) (t : Nat) (v : Int64) : Nat → Int64
  | 0 => v
  | e + 1 => 31 * (31 * (31 * (31 * tdC f t v e + (f (62 + e)).toInt64) + (f (59 + e)).toInt64) + (f (65 + e)).toInt64) + (rdgR f t e 0).toInt64
def tdD (f : Nat → Int32) (v : Int64) : Nat → Int64
  | 0 => v
  | e + 1 => 31 * (31 * (31 * tdD f v e + (f (92 + e)).toInt64) + (f (112 + e)).toInt64) + (if 0 < f (132 + e) then 3 else f (152 + e)).toInt64
def TD (f : Nat → Int32) (t n : Nat) : Int64 := 31 * (31 * tdD f (tdC f t (tdB f (tdA f n 8) 24) 3) n + (96 * f 73 + f 74).toInt64) + (f 75).toInt64

abbrev rmL_told : Room := { frames := 9, cells := 500, slots := 3000, locals := 161 }
set_option maxHeartbeats 4000000 in
set_option maxRecDepth 100000 in
theorem kL_told (l : Launch) (hls : l.stackTraces = false) {M : Mm} {f : Nat → Int32} {t p n : Nat} (hv : RV f t p n) (hh : Rl M 1 f t n) (z : RZ f t n) (ac : AC f n) : Ct l yL_told wsL_told rmL_told (fun B => [.ref (B + 0)]) M (fun _ v u => v = some (.long (TD f t n)) ∧ u = M) := by
  refine Ct.ofJ (own := RL) (by decide +kernel) rfl rfl (fun B => Nat.le_of_ble_eq_true rfl) ?_
  intro pp ee ss mm aa bb me c9 DD ca B Tl AA QQ F K
  show G pp l ee rmL_told ss mm aa bb me c9 QQ DD ca B Tl AA 4 0 0 M 0 [(0, .ref (B + 0))] []
  have hn20 := hv.2.2.2.2.2.1
  refine g_ldc2 F (v := 719) (by decide +kernel) dL_told_0 ?_
  refine g_lstore_n F (lv2 := [(1, _), (0, _)]) dL_told_3 rfl (by decide) rfl ?_
  refine g_iconst F (v := 0) dL_told_4 (by decide) ?_
  refine g_istore_n F (lv2 := [(3, _), (1, _), (0, _)]) dL_told_5 rfl (by decide) rfl ?_
  have LA : ∀ (nkq kq : Nat), kq + nkq = 8 → G pp l ee rmL_told ss mm aa bb me c9 QQ DD ca B Tl AA 4 (0 + 20 * kq) (0 + 120 * kq) (M) 6 [(3, .int (nI kq)), (1, .long (tdA f n kq)), (0, .ref (B + 0))] [] := by
    intro nkq
    induction nkq with
    | zero =>
      intro kq hnkq
      refine g_iload_n F dL_told_6 rfl 0 rfl ?_
      refine g_bipush F (v := 8) dL_told_7 (by decide +kernel) ?_
      refine g_icmpN_ge F 98 dL_told_9 (by decide) (kq) (8) rfl rfl (by omega) (by omega) (fun hckq => ?_) (fun hckq => ?_)
      · obtain rfl : kq = 8 := by omega
        refine g_iconst F (v := 0) dL_told_98 (by decide) ?_
        refine g_istore_n F (lv2 := [(3, _), (1, _), (0, _)]) dL_told_99 rfl (by decide) rfl ?_
        have LB : ∀ (nhq hq : Nat), hq + nhq = 24 → G pp l ee rmL_told ss mm aa bb me c9 QQ DD ca B Tl AA 4 (160 + 3 * hq) (960 + 18 * hq) (M) 100 [(3, .int (nI hq)), (1, .long (tdB f (tdA f n 8) hq)), (0, .ref (B + 0))] [] := by
          intro nhq
          induction nhq with
          | zero =>
            intro hq hnhq
            refine g_iload_n F dL_told_100 rfl 0 rfl ?_
            refine g_bipush F (v := 24) dL_told_101 (by decide +kernel) ?_
            refine g_icmpN_ge F 125 dL_told_103 (by decide) (hq) (24) rfl rfl (by omega) (by omega) (fun hchq => ?_) (fun hchq => ?_)
            · obtain rfl : hq = 24 := by omega
              refine g_iconst F (v := 0) dL_told_125 (by decide) ?_
              refine g_istore_n F (lv2 := [(3, _), (1, _), (0, _)]) dL_told_126 rfl (by decide) rfl ?_
              have LC9 : ∀ (neq eq : Nat), eq + neq = 3 → G pp l ee rmL_told ss mm aa bb me c9 QQ DD ca B Tl AA 4 (232 + 10 * eq) (1392 + 60 * eq) (M) 127 [(3, .int (nI eq)), (1, .long (tdC f t (tdB f (tdA f n 8) 24) eq)), (0, .ref (B + 0))] [] := by
                intro neq
                induction neq with
                | zero =>
                  intro eq hneq
                  refine g_iload_n F dL_told_127 rfl 0 rfl ?_
                  refine g_iconst F (v := 3) dL_told_128 (by decide) ?_
                  refine g_icmpN_ge F 185 dL_told_129 (by decide) (eq) (3) rfl rfl (by omega) (by omega) (fun hceq => ?_) (fun hceq => ?_)
                  · obtain rfl : eq = 3 := by omega
                    refine g_iconst F (v := 0) dL_told_185 (by decide) ?_
                    refine g_istore_n F (lv2 := [(3, _), (1, _), (0, _)]) dL_told_186 rfl (by decide) rfl ?_
                    have LD : ∀ (nnq nq : Nat), nq + nnq = n → G pp l ee rmL_told ss mm aa bb me c9 QQ DD ca B Tl AA 4 (262 + 10 * nq) (1572 + 60 * nq) (M) 187 [(3, .int (nI nq)), (1, .long (tdD f (tdC f t (tdB f (tdA f n 8) 24) 3) nq)), (0, .ref (B + 0))] [] := by
                      intro nnq
                      induction nnq with
                      | zero =>
                        intro nq hnnq
                        refine g_iload_n F dL_told_187 rfl 0 rfl ?_
                        refine g_aload_n F dL_told_188 rfl 2 rfl ?_
                        refine g_callV F (A_notices l hh) (cwV 0 F.1.2.2.2.2 gL_told_X8_notices rfl rfl rfl (by decide +kernel) ⟨Nat.le_of_ble_eq_true rfl, Nat.le_of_ble_eq_true rfl⟩) r0 (by decide) rfl rfl rfl rfl (Nat.le_of_ble_eq_true rfl) dL_told_189 ⟨by show (262 + 10 * nq) + 0 ≤ 500; omega, by show (1572 + 60 * nq) + 0 ≤ 3000; omega⟩ (g_det ?_)
                        refine g_top (y := nI n) hv.2.2.2.2.2.2.1 ?_
                        refine g_icmpN_ge F 236 dL_told_192 (by decide) (nq) (n) rfl rfl (by omega) (by omega) (fun hcnq => ?_) (fun hcnq => ?_)
                        · obtain rfl : n = nq := by omega
                          refine g_ldc2 F (v := 31) (by decide +kernel) dL_told_236 ?_
                          refine g_ldc2 F (v := 31) (by decide +kernel) dL_told_239 ?_
                          refine g_lload_n F dL_told_242 rfl 1 rfl ?_
                          refine g_lmul F dL_told_243 ?_
                          refine g_aload_n F dL_told_244 rfl 2 rfl ?_
                          refine g_callV F (A_time l hh) (cwV 0 F.1.2.2.2.2 gL_told_X8_time rfl rfl rfl (by decide +kernel) ⟨Nat.le_of_ble_eq_true rfl, Nat.le_of_ble_eq_true rfl⟩) r0 (by decide) rfl rfl rfl rfl (Nat.le_of_ble_eq_true rfl) dL_told_245 ⟨by show (262 + 10 * n) + 0 + 0 ≤ 500; omega, by show (1572 + 60 * n) + 0 + 0 ≤ 3000; omega⟩ (g_det ?_)
                          refine g_i2l F dL_told_248 ?_
                          refine g_ladd F dL_told_249 ?_
                          refine g_lmul F dL_told_250 ?_
                          refine g_aload_n F dL_told_251 rfl 2 rfl ?_
                          refine g_callV F (A_notices l hh) (cwV 0 F.1.2.2.2.2 gL_told_X8_notices rfl rfl rfl (by decide +kernel) ⟨Nat.le_of_ble_eq_true rfl, Nat.le_of_ble_eq_true rfl⟩) r0 (by decide) rfl rfl rfl rfl (Nat.le_of_ble_eq_true rfl) dL_told_252 ⟨by show (262 + 10 * n) + 0 + 0 + 0 ≤ 500; omega, by show (1572 + 60 * n) + 0 + 0 + 0 ≤ 3000; omega⟩ (g_det ?_)
                          refine g_i2l F dL_told_255 ?_
                          refine g_ladd F dL_told_256 ?_
                          refine g_widen (k := 500) (n := 3000) (by show (262 + 10 * n) + 0 + 0 + 0 ≤ 500; omega) (by show (1572 + 60 * n) + 0 + 0 + 0 ≤ 3000; omega) ?_
                          exact K _ _ _ _ dL_told_257 ⟨rfl, rfl⟩
                        · exact absurd hcnq (by omega)
                      | succ nnq ihnq =>
                        intro nq hnnq
                        refine g_iload_n F dL_told_187 rfl 0 rfl ?_
                        refine g_aload_n F dL_told_188 rfl 2 rfl ?_
                        refine g_callV F (A_notices l hh) (cwV 0 F.1.2.2.2.2 gL_told_X8_notices rfl rfl rfl (by decide +kernel) ⟨Nat.le_of_ble_eq_true rfl, Nat.le_of_ble_eq_true rfl⟩) r0 (by decide) rfl rfl rfl rfl (Nat.le_of_ble_eq_true rfl) dL_told_189 ⟨by show (262 + 10 * nq) + 0 ≤ 500; omega, by show (1572 + 60 * nq) + 0 ≤ 3000; omega⟩ (g_det ?_)
                        refine g_top (y := nI n) hv.2.2.2.2.2.2.1 ?_
                        refine g_icmpN_ge F 236 dL_told_192 (by decide) (nq) (n) rfl rfl (by omega) (by omega) (fun hcnq => ?_) (fun hcnq => ?_)
                        · exact absurd hcnq (by omega)
                        · refine g_ldc2 F (v := 31) (by decide +kernel) dL_told_195 ?_
                          refine g_ldc2 F (v := 31) (by decide +kernel) dL_told_198 ?_
                          refine g_ldc2 F (v := 31) (by decide +kernel) dL_told_201 ?_
                          refine g_lload_n F dL_told_204 rfl 1 rfl ?_
                          refine g_lmul F dL_told_205 ?_
                          refine g_aload_n F dL_told_206 rfl 2 rfl ?_
                          refine g_iload_n F dL_told_207 rfl 0 rfl ?_
                          refine g_callSW F (A_chimneyOf l hls hv hh z (e := nq) (by omega)) (vx_cwSW 2 F.1.2.2.2.2 gL_told_L_chimneyOf rfl rfl rfl (by decide +kernel) ⟨Nat.le_of_ble_eq_true rfl, Nat.le_of_ble_eq_true rfl⟩) rfl rfl rfl (Nat.le_of_ble_eq_true rfl) dL_told_208 ⟨by show (262 + 10 * nq) + 0 + 1 ≤ 500; omega, by show (1572 + 60 * nq) + 0 + 6 ≤ 3000; omega⟩ (g_det ?_)
                          refine g_i2l F dL_told_211 ?_
                          refine g_ladd F dL_told_212 ?_
                          refine g_lmul F dL_told_213 ?_
                          refine g_aload_n F dL_told_214 rfl 2 rfl ?_
                          refine g_iload_n F dL_told_215 rfl 0 rfl ?_
                          refine g_callSW F (A_fineOf l hls hv hh z (e := nq) (by omega)) (vx_cwSW 2 F.1.2.2.2.2 gL_told_L_fineOf rfl rfl rfl (by decide +kernel) ⟨Nat.le_of_ble_eq_true rfl, Nat.le_of_ble_eq_true rfl⟩) rfl rfl rfl (Nat.le_of_ble_eq_true rfl) dL_told_216 ⟨by show (262 + 10 * nq) + 0 + 1 + 1 ≤ 500; omega, by show (1572 + 60 * nq) + 0 + 6 + 6 ≤ 3000; omega⟩ (g_det ?_)
                          refine g_i2l F dL_told_219 ?_
                          refine g_ladd F dL_told_220 ?_
                          refine g_lmul F dL_told_221 ?_
                          refine g_aload_n F dL_told_222 rfl 2 rfl ?_
                          refine g_iload_n F dL_told_223 rfl 0 rfl ?_
                          refine g_callSW F (A_wouldAppeal l hls hv hh z (e := nq) (by omega)) (vx_cwSW 2 F.1.2.2.2.2 gL_told_L_wouldAppeal rfl rfl rfl (by decide +kernel) ⟨Nat.le_of_ble_eq_true rfl, Nat.le_of_ble_eq_true rfl⟩) rfl rfl rfl (Nat.le_of_ble_eq_true rfl) dL_told_224 ⟨by show (262 + 10 * nq) + 0 + 1 + 1 + 1 ≤ 500; omega, by show (1572 + 60 * nq) + 0 + 6 + 6 + 6 ≤ 3000; omega⟩ (g_det ?_)
                          refine g_i2l F dL_told_227 ?_
                          refine g_ladd F dL_told_228 ?_
                          refine g_lstore_n F (lv2 := [(1, _), (3, _), (0, _)]) dL_told_229 rfl (by decide) rfl ?_
                          refine g_iinc F (lv2 := [(3, _), (1, _), (0, _)]) dL_told_230 1 rfl (nI_1 _) (by decide) rfl ?_
                          refine g_goto F 187 dL_told_233 (by decide) ?_
                          refine g_widen (k := (262 + 10 * (nq + 1))) (n := (1572 + 60 * (nq + 1))) (by show (262 + 10 * nq) + 0 + 1 + 1 + 1 ≤ (262 + 10 * (nq + 1)); omega) (by show (1572 + 60 * nq) + 0 + 6 + 6 + 6 ≤ (1572 + 60 * (nq + 1)); omega) ?_
                          refine g_lv (lv2 := [(3, _), (1, _), (0, _)]) [0, 1, 2] rfl ?_
                          exact g_is rfl rfl (ihnq (nq + 1) (by omega))
                    refine g_widen (k := (262 + 10 * 0)) (n := (1572 + 60 * 0)) (by show (232 + 10 * 3) ≤ (262 + 10 * 0); omega) (by show (1392 + 60 * 3) ≤ (1572 + 60 * 0); omega) ?_
                    refine g_lv (lv2 := [(3, _), (1, _), (0, _)]) [0, 1, 2] rfl ?_
                    exact g_is rfl rfl (LD (n - 0) (0) (by omega))
                  · exact absurd hceq (by omega)
                | succ neq iheq =>
                  intro eq hneq
                  refine g_iload_n F dL_told_127 rfl 0 rfl ?_
                  refine g_iconst F (v := 3) dL_told_128 (by decide) ?_
                  refine g_icmpN_ge F 185 dL_told_129 (by decide) (eq) (3) rfl rfl (by omega) (by omega) (fun hceq => ?_) (fun hceq => ?_)
                  · exact absurd hceq (by omega)
                  · refine g_ldc2 F (v := 31) (by decide +kernel) dL_told_132 ?_
                    refine g_ldc2 F (v := 31) (by decide +kernel) dL_told_135 ?_
                    refine g_ldc2 F (v := 31) (by decide +kernel) dL_told_138 ?_
                    refine g_ldc2 F (v := 31) (by decide +kernel) dL_told_141 ?_
                    refine g_lload_n F dL_told_144 rfl 1 rfl ?_
                    refine g_lmul F dL_told_145 ?_
                    refine g_aload_n F dL_told_146 rfl 2 rfl ?_
                    refine g_iload_n F dL_told_147 rfl 0 rfl ?_
                    refine g_callSW F (A_watchedBy l hls hv hh z (e := eq) (by omega)) (vx_cwSW 2 F.1.2.2.2.2 gL_told_L_watchedBy rfl rfl rfl (by decide +kernel) ⟨Nat.le_of_ble_eq_true rfl, Nat.le_of_ble_eq_true rfl⟩) rfl rfl rfl (Nat.le_of_ble_eq_true rfl) dL_told_148 ⟨by show (232 + 10 * eq) + 1 ≤ 500; omega, by show (1392 + 60 * eq) + 6 ≤ 3000; omega⟩ (g_det ?_)
                    refine g_i2l F dL_told_151 ?_
                    refine g_ladd F dL_told_152 ?_
                    refine g_lmul F dL_told_153 ?_
                    refine g_aload_n F dL_told_154 rfl 2 rfl ?_
                    refine g_iload_n F dL_told_155 rfl 0 rfl ?_
                    refine g_callSW F (A_tirednessOf l hls hv hh z (e := eq) (by omega)) (vx_cwSW 2 F.1.2.2.2.2 gL_told_L_tirednessOf rfl rfl rfl (by decide +kernel) ⟨Nat.le_of_ble_eq_true rfl, Nat.le_of_ble_eq_true rfl⟩) rfl rfl rfl (Nat.le_of_ble_eq_true rfl) dL_told_156 ⟨by show (232 + 10 * eq) + 1 + 1 ≤ 500; omega, by show (1392 + 60 * eq) + 6 + 6 ≤ 3000; omega⟩ (g_det ?_)
                    refine g_i2l F dL_told_159 ?_
                    refine g_ladd F dL_told_160 ?_
                    refine g_lmul F dL_told_161 ?_
                    refine g_aload_n F dL_told_162 rfl 2 rfl ?_
                    refine g_iload_n F dL_told_163 rfl 0 rfl ?_
                    refine g_callSW F (A_errorsOf l hls hv hh z (e := eq) (by omega)) (vx_cwSW 2 F.1.2.2.2.2 gL_told_L_errorsOf rfl rfl rfl (by decide +kernel) ⟨Nat.le_of_ble_eq_true rfl, Nat.le_of_ble_eq_true rfl⟩) rfl rfl rfl (Nat.le_of_ble_eq_true rfl) dL_told_164 ⟨by show (232 + 10 * eq) + 1 + 1 + 1 ≤ 500; omega, by show (1392 + 60 * eq) + 6 + 6 + 6 ≤ 3000; omega⟩ (g_det ?_)
                    refine g_i2l F dL_told_167 ?_
                    refine g_ladd F dL_told_168 ?_
                    refine g_lmul F dL_told_169 ?_
                    refine g_aload_n F dL_told_170 rfl 2 rfl ?_
                    refine g_iload_n F dL_told_171 rfl 0 rfl ?_
                    refine g_iconst F (v := 0) dL_told_172 (by decide) ?_
                    refine g_callSW F (A_wouldRead l hls hv hh z (e := eq) (c := 0) (by omega) (by omega)) (vx_cwSW 3 F.1.2.2.2.2 gL_told_L_wouldRead rfl rfl rfl (by decide +kernel) ⟨Nat.le_of_ble_eq_true rfl, Nat.le_of_ble_eq_true rfl⟩) rfl rfl rfl (Nat.le_of_ble_eq_true rfl) dL_told_173 ⟨by show (232 + 10 * eq) + 1 + 1 + 1 + 2 ≤ 500; omega, by show (1392 + 60 * eq) + 6 + 6 + 6 + 12 ≤ 3000; omega⟩ (g_det ?_)
                    refine g_i2l F dL_told_176 ?_
                    refine g_ladd F dL_told_177 ?_
                    refine g_lstore_n F (lv2 := [(1, _), (3, _), (0, _)]) dL_told_178 rfl (by decide) rfl ?_
                    refine g_iinc F (lv2 := [(3, _), (1, _), (0, _)]) dL_told_179 1 rfl (nI_1 _) (by decide) rfl ?_
                    refine g_goto F 127 dL_told_182 (by decide) ?_
                    refine g_widen (k := (232 + 10 * (eq + 1))) (n := (1392 + 60 * (eq + 1))) (by show (232 + 10 * eq) + 1 + 1 + 1 + 2 ≤ (232 + 10 * (eq + 1)); omega) (by show (1392 + 60 * eq) + 6 + 6 + 6 + 12 ≤ (1392 + 60 * (eq + 1)); omega) ?_
                    refine g_lv (lv2 := [(3, _), (1, _), (0, _)]) [0, 1, 2] rfl ?_
                    exact g_is rfl rfl (iheq (eq + 1) (by omega))
              refine g_widen (k := (232 + 10 * 0)) (n := (1392 + 60 * 0)) (by show (160 + 3 * 24) ≤ (232 + 10 * 0); omega) (by show (960 + 18 * 24) ≤ (1392 + 60 * 0); omega) ?_
              refine g_lv (lv2 := [(3, _), (1, _), (0, _)]) [0, 1, 2] rfl ?_
              exact g_is rfl rfl (LC9 (3 - 0) (0) (by omega))
            · exact absurd hchq (by omega)
          | succ nhq ihhq =>
            intro hq hnhq
            refine g_iload_n F dL_told_100 rfl 0 rfl ?_
            refine g_bipush F (v := 24) dL_told_101 (by decide +kernel) ?_
            refine g_icmpN_ge F 125 dL_told_103 (by decide) (hq) (24) rfl rfl (by omega) (by omega) (fun hchq => ?_) (fun hchq => ?_)
            · exact absurd hchq (by omega)
            · refine g_ldc2 F (v := 31) (by decide +kernel) dL_told_106 ?_
              refine g_lload_n F dL_told_109 rfl 1 rfl ?_
              refine g_lmul F dL_told_110 ?_
              refine g_aload_n F dL_told_111 rfl 2 rfl ?_
              refine g_iload_n F dL_told_112 rfl 0 rfl ?_
              refine g_callSW F (A_greyOf l hls hv hh z (y := hq) (by omega)) (vx_cwSW 2 F.1.2.2.2.2 gL_told_L_greyOf rfl rfl rfl (by decide +kernel) ⟨Nat.le_of_ble_eq_true rfl, Nat.le_of_ble_eq_true rfl⟩) rfl rfl rfl (Nat.le_of_ble_eq_true rfl) dL_told_113 ⟨by show (160 + 3 * hq) + 1 ≤ 500; omega, by show (960 + 18 * hq) + 6 ≤ 3000; omega⟩ (g_det ?_)
              refine g_i2l F dL_told_116 ?_
              refine g_ladd F dL_told_117 ?_
              refine g_lstore_n F (lv2 := [(1, _), (3, _), (0, _)]) dL_told_118 rfl (by decide) rfl ?_
              refine g_iinc F (lv2 := [(3, _), (1, _), (0, _)]) dL_told_119 1 rfl (nI_1 _) (by decide) rfl ?_
              refine g_goto F 100 dL_told_122 (by decide) ?_
              refine g_widen (k := (160 + 3 * (hq + 1))) (n := (960 + 18 * (hq + 1))) (by show (160 + 3 * hq) + 1 ≤ (160 + 3 * (hq + 1)); omega) (by show (960 + 18 * hq) + 6 ≤ (960 + 18 * (hq + 1)); omega) ?_
              refine g_lv (lv2 := [(3, _), (1, _), (0, _)]) [0, 1, 2] rfl ?_
              exact g_is rfl rfl (ihhq (hq + 1) (by omega))
        refine g_widen (k := (160 + 3 * 0)) (n := (960 + 18 * 0)) (by show (0 + 20 * 8) ≤ (160 + 3 * 0); omega) (by show (0 + 120 * 8) ≤ (960 + 18 * 0); omega) ?_
        refine g_lv (lv2 := [(3, _), (1, _), (0, _)]) [0, 1, 2] rfl ?_
        exact g_is rfl rfl (LB (24 - 0) (0) (by omega))
      · exact absurd hckq (by omega)
    | succ nkq ihkq =>
      intro kq hnkq
      refine g_iload_n F dL_told_6 rfl 0 rfl ?_
      refine g_bipush F (v := 8) dL_told_7 (by decide +kernel) ?_
      refine g_icmpN_ge F 98 dL_told_9 (by decide) (kq) (8) rfl rfl (by omega) (by omega) (fun hckq => ?_) (fun hckq => ?_)
      · exact absurd hckq (by omega)
      · refine g_ldc2 F (v := 31) (by decide +kernel) dL_told_12 ?_
        refine g_ldc2 F (v := 31) (by decide +kernel) dL_told_15 ?_
        refine g_ldc2 F (v := 31) (by decide +kernel) dL_told_18 ?_
        refine g_lload_n F dL_told_21 rfl 1 rfl ?_
        refine g_lmul F dL_told_22 ?_
        refine g_aload_n F dL_told_23 rfl 2 rfl ?_
        refine g_iload_n F dL_told_24 rfl 0 rfl ?_
        refine g_iconst F (v := 0) dL_told_25 (by decide) ?_
        refine g_bipush F (v := 95) dL_told_26 (by decide +kernel) ?_
        refine g_iconst F (v := 0) dL_told_28 (by decide) ?_
        refine g_callSW F (A_smoke l hls hv hh z (c := kq) (by omega)) (vx_cwSW 5 F.1.2.2.2.2 gL_told_L_smoke rfl rfl rfl (by decide +kernel) ⟨Nat.le_of_ble_eq_true rfl, Nat.le_of_ble_eq_true rfl⟩) rfl rfl rfl (Nat.le_of_ble_eq_true rfl) dL_told_29 ⟨by show (0 + 20 * kq) + 2 ≤ 500; omega, by show (0 + 120 * kq) + 12 ≤ 3000; omega⟩ (g_det ?_)
        refine g_i2l F dL_told_32 ?_
        refine g_ladd F dL_told_33 ?_
        refine g_lmul F dL_told_34 ?_
        refine g_aload_n F dL_told_35 rfl 2 rfl ?_
        refine g_iload_n F dL_told_36 rfl 0 rfl ?_
        refine g_iconst F (v := 0) dL_told_37 (by decide) ?_
        refine g_callSW F (A_nextStoking l hls hv hh z (c := kq) (by omega)) (vx_cwSW 3 F.1.2.2.2.2 gL_told_L_nextStoking rfl rfl rfl (by decide +kernel) ⟨Nat.le_of_ble_eq_true rfl, Nat.le_of_ble_eq_true rfl⟩) rfl rfl rfl (Nat.le_of_ble_eq_true rfl) dL_told_38 ⟨by show (0 + 20 * kq) + 2 + 2 ≤ 500; omega, by show (0 + 120 * kq) + 12 + 12 ≤ 3000; omega⟩ (g_det ?_)
        refine g_i2l F dL_told_41 ?_
        refine g_ladd F dL_told_42 ?_
        refine g_lmul F dL_told_43 ?_
        refine g_aload_n F dL_told_44 rfl 2 rfl ?_
        refine g_iload_n F dL_told_45 rfl 0 rfl ?_
        refine g_iconst F (v := 1) dL_told_46 (by decide) ?_
        refine g_callSW F (A_finesOf l hls hv hh z ac (c := kq) (by omega) _) (vx_cwSW 3 F.1.2.2.2.2 gL_told_L_finesOf rfl rfl rfl (by decide +kernel) ⟨Nat.le_of_ble_eq_true rfl, Nat.le_of_ble_eq_true rfl⟩) rfl rfl rfl (Nat.le_of_ble_eq_true rfl) dL_told_47 ⟨by show (0 + 20 * kq) + 2 + 2 + 1 ≤ 500; omega, by show (0 + 120 * kq) + 12 + 12 + 6 ≤ 3000; omega⟩ (g_det ?_)
        refine g_i2l F dL_told_50 ?_
        refine g_ladd F dL_told_51 ?_
        refine g_lstore_n F (lv2 := [(1, _), (3, _), (0, _)]) dL_told_52 rfl (by decide) rfl ?_
        refine g_ldc2 F (v := 31) (by decide +kernel) dL_told_53 ?_
        refine g_ldc2 F (v := 31) (by decide +kernel) dL_told_56 ?_
        refine g_ldc2 F (v := 31) (by decide +kernel) dL_told_59 ?_
        refine g_lload_n F dL_told_62 rfl 0 rfl ?_
        refine g_lmul F dL_told_63 ?_
        refine g_aload_n F dL_told_64 rfl 2 rfl ?_
        refine g_iload_n F dL_told_65 rfl 1 rfl ?_
        refine g_iconst F (v := 0) dL_told_66 (by decide) ?_
        refine g_callSW F (A_readingsFrom l hls hv hh z (c := kq) (y := 0) (by omega) (by omega)) (vx_cwSW 3 F.1.2.2.2.2 gL_told_L_readingsFrom rfl rfl rfl (by decide +kernel) ⟨Nat.le_of_ble_eq_true rfl, Nat.le_of_ble_eq_true rfl⟩) rfl rfl rfl (Nat.le_of_ble_eq_true rfl) dL_told_67 ⟨by show (0 + 20 * kq) + 2 + 2 + 1 + 2 ≤ 500; omega, by show (0 + 120 * kq) + 12 + 12 + 6 + 12 ≤ 3000; omega⟩ (g_det ?_)
        refine g_i2l F dL_told_70 ?_
        refine g_ladd F dL_told_71 ?_
        refine g_lmul F dL_told_72 ?_
        refine g_aload_n F dL_told_73 rfl 2 rfl ?_
        refine g_iload_n F dL_told_74 rfl 1 rfl ?_
        refine g_iconst F (v := 2) dL_told_75 (by decide) ?_
        refine g_iconst F (v := 0) dL_told_76 (by decide) ?_
        refine g_callSW F (A_longestRow l hls hv hh z (c := kq) (y := 2) (by omega) (by omega) _) (vx_cwSW 4 F.1.2.2.2.2 gL_told_L_longestRow rfl rfl rfl (by decide +kernel) ⟨Nat.le_of_ble_eq_true rfl, Nat.le_of_ble_eq_true rfl⟩) rfl rfl rfl (Nat.le_of_ble_eq_true rfl) dL_told_77 ⟨by show (0 + 20 * kq) + 2 + 2 + 1 + 2 + 2 ≤ 500; omega, by show (0 + 120 * kq) + 12 + 12 + 6 + 12 + 12 ≤ 3000; omega⟩ (g_det ?_)
        refine g_i2l F dL_told_80 ?_
        refine g_ladd F dL_told_81 ?_
        refine g_lmul F dL_told_82 ?_
        refine g_aload_n F dL_told_83 rfl 2 rfl ?_
        refine g_iload_n F dL_told_84 rfl 1 rfl ?_
        refine g_iconst F (v := 4) dL_told_85 (by decide) ?_
        refine g_callSW F (A_readingsFrom l hls hv hh z (c := kq) (y := 4) (by omega) (by omega)) (vx_cwSW 3 F.1.2.2.2.2 gL_told_L_readingsFrom rfl rfl rfl (by decide +kernel) ⟨Nat.le_of_ble_eq_true rfl, Nat.le_of_ble_eq_true rfl⟩) rfl rfl rfl (Nat.le_of_ble_eq_true rfl) dL_told_86 ⟨by show (0 + 20 * kq) + 2 + 2 + 1 + 2 + 2 + 2 ≤ 500; omega, by show (0 + 120 * kq) + 12 + 12 + 6 + 12 + 12 + 12 ≤ 3000; omega⟩ (g_det ?_)
        refine g_i2l F dL_told_89 ?_
        refine g_ladd F dL_told_90 ?_
        refine g_lstore_n F (lv2 := [(1, _), (3, _), (0, _)]) dL_told_91 rfl (by decide) rfl ?_
        refine g_iinc F (lv2 := [(3, _), (1, _), (0, _)]) dL_told_92 1 rfl (nI_1 _) (by decide) rfl ?_
        refine g_goto F 6 dL_told_95 (by decide) ?_
        refine g_widen (k := (0 + 20 * (kq + 1))) (n := (0 + 120 * (kq + 1))) (by show (0 + 20 * kq) + 2 + 2 + 1 + 2 + 2 + 2 ≤ (0 + 20 * (kq + 1)); omega) (by show (0 + 120 * kq) + 12 + 12 + 6 + 12 + 12 + 12 ≤ (0 + 120 * (kq + 1)); omega) ?_
        refine g_lv (lv2 := [(3, _), (1, _), (0, _)]) [0, 1, 2] rfl ?_
        exact g_is rfl rfl (ihkq (kq + 1) (by omega))
  refine g_widen (k := (0 + 20 * 0)) (n := (0 + 120 * 0)) (by show 0 ≤ (0 + 20 * 0); omega) (by show 0 ≤ (0 + 120 * 0); omega) ?_
  refine g_lv (lv2 := [(3, _), (1, _), (0, _)]) [0, 1, 2] rfl ?_
  exact g_is rfl rfl (LA (8 - 0) (0) (by omega))
