section LAWC
variable {p : Program} {l : Launch} {e : Env} {s : State} {m : MethodId} {args : Array Value} {below : List Frame} {meth : Method} {c : Code} {Q : State → Prop} {D : va_G} {ca : Nat → ClassId} {cl : ClassId} {o : Nat → Int64} {B b L j : Nat} {xs : Nat → Int32} {cells slots : Nat} {M : Mm}

set_option maxHeartbeats 2000000 in
set_option maxRecDepth 100000 in
theorem law_c30 (hls : l.stackTraces = false) (F : Fx p room_1 s m args meth c cL_law 7 wsL_law RL D ca (AB B)) (hN : Nc3 s) (hL : va_K D vwCl [(cl, .long)] s) (hX : va_X b L xs s s.heap) (hb : b < s.heap.size) (hbA : ¬ AB B b) (hL9 : L ≤ 3072) (hj : 6 * j + 5 < L) (I : INV M) (hc : cells + 61 ≤ 601024) (hs : slots + 366 ≤ 7293034) (kk : ∀ (o' : Nat → Int64) (M' : Mm), INV M' → G p l e room_1 s m args below meth c Q D ca B (TL cl B o') (AB B) 7 (cells + 61) (slots + 366) M' 2438 [(4, .int (nI (6 * j))), (0, .ref b), (1, .ref (B + 0)), (2, .ref (B + 709)), (3, .ref (B + 717))] []) : G p l e room_1 s m args below meth c Q D ca B (TL cl B o) (AB B) 7 (cells) (slots) M 2030 [(4, .int (nI (6 * j))), (0, .ref b), (1, .ref (B + 0)), (2, .ref (B + 709)), (3, .ref (B + 717))] [] := by
  refine g_aload_n F dL_law_2030 rfl 2 rfl ?_
  refine g_aload_n F dL_law_2031 rfl 1 rfl ?_
  refine g_iload F dL_law_2032 0 rfl ?_
  refine g_iconst F (v := 1) dL_law_2034 (by decide) ?_
  refine g_iadd F dL_law_2035 ?_
  refine g_sld F hX hb hbA (6 * j + 1) (nI_ad (6 * j) 1) (by omega) hL9 dL_law_2036 ?_
  refine g_aload_n F dL_law_2037 rfl 4 rfl ?_
  refine g_callW F hN hL (S_ticksToNotice l hls I (xs (6 * j + 1))) (vx_cwSW 3 F.1.2.2.2.2 gL_law_L_ticksToNotice rfl rfl rfl (by decide +kernel) ⟨Nat.le_of_ble_eq_true rfl, Nat.le_of_ble_eq_true rfl⟩) rfl rfl rfl (Nat.le_of_ble_eq_true rfl) dL_law_2038 ⟨by show cells + 1 ≤ 601024; omega, by show slots + 6 ≤ 7293034; omega⟩ (fun k9 o9 u9 hu9 => ?_)
  obtain ⟨post9, hM9, hq9⟩ := hu9
  refine g_istore F (lv2 := [(5, _), (4, _), (0, _), (1, _), (2, _), (3, _)]) dL_law_2041 (by decide) rfl ?_
  refine g_aload_n F dL_law_2043 rfl 4 rfl ?_
  refine g_aload_n F dL_law_2044 rfl 2 rfl ?_
  refine g_iload F dL_law_2045 1 rfl ?_
  refine g_iconst F (v := 1) dL_law_2047 (by decide) ?_
  refine g_iadd F dL_law_2048 ?_
  refine g_sld F hX hb hbA (6 * j + 1) (nI_ad (6 * j) 1) (by omega) hL9 dL_law_2049 ?_
  refine g_callV F hM9 (cwV 1 F.1.2.2.2.2 gL_law_X9_ticksToNotice rfl rfl rfl (by decide +kernel) ⟨Nat.le_of_ble_eq_true rfl, Nat.le_of_ble_eq_true rfl⟩) r709 (by decide) rfl rfl rfl rfl (Nat.le_of_ble_eq_true rfl) dL_law_2050 ⟨by show cells + 1 + 0 ≤ 601024; omega, by show slots + 6 + 0 ≤ 7293034; omega⟩ (fun v9 u2 hv9 => ?_)
  obtain ⟨b9, rfl, hcc, ho, hI⟩ := hq9 _ _ _ hv9
  refine g_istore F (lv2 := [(6, _), (5, _), (4, _), (0, _), (1, _), (2, _), (3, _)]) dL_law_2053 (by decide) rfl ?_
  refine g_aload_n F dL_law_2055 rfl 5 rfl ?_
  refine g_callV F (kX9_thrown l) (cwV 0 F.1.2.2.2.2 gL_law_X9_thrown rfl rfl rfl (by decide +kernel) ⟨Nat.le_of_ble_eq_true rfl, Nat.le_of_ble_eq_true rfl⟩) r709 (by decide) rfl rfl rfl rfl (Nat.le_of_ble_eq_true rfl) dL_law_2056 ⟨by show cells + 1 + 0 ≤ 601024; omega, by show slots + 6 + 0 ≤ 7293034; omega⟩ (g_det ?_)
  refine g_iload F dL_law_2059 1 rfl ?_
  refine g_icmp_eq F 2066 dL_law_2061 (by decide) (fun h1 => ?_) (fun h1 => absurd hcc h1)
  refine g_iload F dL_law_2066 1 rfl ?_
  refine g_if_ne F 2083 dL_law_2068 (by decide) (fun h1 => ?_) (fun h1 => ?_)
  · refine g_goto F 2438 dL_law_2083 (by decide) ?_
    refine g_lv (lv2 := [(4, .int (nI (6 * j))), (0, .ref b), (1, .ref (B + 0)), (2, .ref (B + 709)), (3, .ref (B + 717))]) [2, 3, 4, 5, 6] rfl ?_
    refine g_widen (k := cells + 61) (n := slots + 366) (by show cells + 1 ≤ cells + 61; omega) (by show slots + 6 ≤ slots + 366; omega) ?_
    exact kk _ _ hI
  · refine g_aload_n F dL_law_2071 rfl 6 rfl ?_
    refine g_iconst F (v := 0) dL_law_2072 (by decide) ?_
    refine g_outld F hL dL_law_2073 ?_
    refine g_iload F dL_law_2074 0 rfl ?_
    refine g_i2l F dL_law_2076 ?_
    refine g_lcmp F dL_law_2077 ?_
    refine g_if_eq F 2083 dL_law_2078 (by decide) (fun h2 => ?_) (fun h2 => absurd (lg_eq0.mpr (ho h1)) h2)
    refine g_goto F 2438 dL_law_2083 (by decide) ?_
    refine g_lv (lv2 := [(4, .int (nI (6 * j))), (0, .ref b), (1, .ref (B + 0)), (2, .ref (B + 709)), (3, .ref (B + 717))]) [2, 3, 4, 5, 6] rfl ?_
    refine g_widen (k := cells + 61) (n := slots + 366) (by show cells + 1 ≤ cells + 61; omega) (by show slots + 6 ≤ slots + 366; omega) ?_
    exact kk _ _ hI
set_option maxHeartbeats 2000000 in
set_option maxRecDepth 100000 in
theorem law_c31 (hls : l.stackTraces = false) (F : Fx p room_1 s m args meth c cL_law 7 wsL_law RL D ca (AB B)) (hN : Nc3 s) (hL : va_K D vwCl [(cl, .long)] s) (hX : va_X b L xs s s.heap) (hb : b < s.heap.size) (hbA : ¬ AB B b) (hL9 : L ≤ 3072) (hj : 6 * j + 5 < L) (I : INV M) (hc : cells + 61 ≤ 601024) (hs : slots + 366 ≤ 7293034) (kk : ∀ (o' : Nat → Int64) (M' : Mm), INV M' → G p l e room_1 s m args below meth c Q D ca B (TL cl B o') (AB B) 7 (cells + 61) (slots + 366) M' 2438 [(4, .int (nI (6 * j))), (0, .ref b), (1, .ref (B + 0)), (2, .ref (B + 709)), (3, .ref (B + 717))] []) : G p l e room_1 s m args below meth c Q D ca B (TL cl B o) (AB B) 7 (cells) (slots) M 2086 [(4, .int (nI (6 * j))), (0, .ref b), (1, .ref (B + 0)), (2, .ref (B + 709)), (3, .ref (B + 717))] [] := by
  refine g_aload_n F dL_law_2086 rfl 2 rfl ?_
  refine g_aload_n F dL_law_2087 rfl 1 rfl ?_
  refine g_iload F dL_law_2088 0 rfl ?_
  refine g_iconst F (v := 1) dL_law_2090 (by decide) ?_
  refine g_iadd F dL_law_2091 ?_
  refine g_sld F hX hb hbA (6 * j + 1) (nI_ad (6 * j) 1) (by omega) hL9 dL_law_2092 ?_
  refine g_aload_n F dL_law_2093 rfl 4 rfl ?_
  refine g_callW F hN hL (S_mildLimit l hls I (xs (6 * j + 1))) (vx_cwSW 3 F.1.2.2.2.2 gL_law_L_mildLimit rfl rfl rfl (by decide +kernel) ⟨Nat.le_of_ble_eq_true rfl, Nat.le_of_ble_eq_true rfl⟩) rfl rfl rfl (Nat.le_of_ble_eq_true rfl) dL_law_2094 ⟨by show cells + 1 ≤ 601024; omega, by show slots + 6 ≤ 7293034; omega⟩ (fun k9 o9 u9 hu9 => ?_)
  obtain ⟨post9, hM9, hq9⟩ := hu9
  refine g_istore F (lv2 := [(5, _), (4, _), (0, _), (1, _), (2, _), (3, _)]) dL_law_2097 (by decide) rfl ?_
  refine g_aload_n F dL_law_2099 rfl 4 rfl ?_
  refine g_aload_n F dL_law_2100 rfl 2 rfl ?_
  refine g_iload F dL_law_2101 1 rfl ?_
  refine g_iconst F (v := 1) dL_law_2103 (by decide) ?_
  refine g_iadd F dL_law_2104 ?_
  refine g_sld F hX hb hbA (6 * j + 1) (nI_ad (6 * j) 1) (by omega) hL9 dL_law_2105 ?_
  refine g_callV F hM9 (cwV 1 F.1.2.2.2.2 gL_law_X9_mildLimit rfl rfl rfl (by decide +kernel) ⟨Nat.le_of_ble_eq_true rfl, Nat.le_of_ble_eq_true rfl⟩) r709 (by decide) rfl rfl rfl rfl (Nat.le_of_ble_eq_true rfl) dL_law_2106 ⟨by show cells + 1 + 0 ≤ 601024; omega, by show slots + 6 + 0 ≤ 7293034; omega⟩ (fun v9 u2 hv9 => ?_)
  obtain ⟨b9, rfl, hcc, ho, hI⟩ := hq9 _ _ _ hv9
  refine g_istore F (lv2 := [(6, _), (5, _), (4, _), (0, _), (1, _), (2, _), (3, _)]) dL_law_2109 (by decide) rfl ?_
  refine g_aload_n F dL_law_2111 rfl 5 rfl ?_
  refine g_callV F (kX9_thrown l) (cwV 0 F.1.2.2.2.2 gL_law_X9_thrown rfl rfl rfl (by decide +kernel) ⟨Nat.le_of_ble_eq_true rfl, Nat.le_of_ble_eq_true rfl⟩) r709 (by decide) rfl rfl rfl rfl (Nat.le_of_ble_eq_true rfl) dL_law_2112 ⟨by show cells + 1 + 0 ≤ 601024; omega, by show slots + 6 + 0 ≤ 7293034; omega⟩ (g_det ?_)
  refine g_iload F dL_law_2115 1 rfl ?_
  refine g_icmp_eq F 2122 dL_law_2117 (by decide) (fun h1 => ?_) (fun h1 => absurd hcc h1)
  refine g_iload F dL_law_2122 1 rfl ?_
  refine g_if_ne F 2139 dL_law_2124 (by decide) (fun h1 => ?_) (fun h1 => ?_)
  · refine g_goto F 2438 dL_law_2139 (by decide) ?_
    refine g_lv (lv2 := [(4, .int (nI (6 * j))), (0, .ref b), (1, .ref (B + 0)), (2, .ref (B + 709)), (3, .ref (B + 717))]) [2, 3, 4, 5, 6] rfl ?_
    refine g_widen (k := cells + 61) (n := slots + 366) (by show cells + 1 ≤ cells + 61; omega) (by show slots + 6 ≤ slots + 366; omega) ?_
    exact kk _ _ hI
  · refine g_aload_n F dL_law_2127 rfl 6 rfl ?_
    refine g_iconst F (v := 0) dL_law_2128 (by decide) ?_
    refine g_outld F hL dL_law_2129 ?_
    refine g_iload F dL_law_2130 0 rfl ?_
    refine g_i2l F dL_law_2132 ?_
    refine g_lcmp F dL_law_2133 ?_
    refine g_if_eq F 2139 dL_law_2134 (by decide) (fun h2 => ?_) (fun h2 => absurd (lg_eq0.mpr (ho h1)) h2)
    refine g_goto F 2438 dL_law_2139 (by decide) ?_
    refine g_lv (lv2 := [(4, .int (nI (6 * j))), (0, .ref b), (1, .ref (B + 0)), (2, .ref (B + 709)), (3, .ref (B + 717))]) [2, 3, 4, 5, 6] rfl ?_
    refine g_widen (k := cells + 61) (n := slots + 366) (by show cells + 1 ≤ cells + 61; omega) (by show slots + 6 ≤ slots + 366; omega) ?_
    exact kk _ _ hI
set_option maxHeartbeats 2000000 in
set_option maxRecDepth 100000 in
theorem law_c32 (hls : l.stackTraces = false) (F : Fx p room_1 s m args meth c cL_law 7 wsL_law RL D ca (AB B)) (hN : Nc3 s) (hL : va_K D vwCl [(cl, .long)] s) (hX : va_X b L xs s s.heap) (hb : b < s.heap.size) (hbA : ¬ AB B b) (hL9 : L ≤ 3072) (hj : 6 * j + 5 < L) (I : INV M) (hc : cells + 61 ≤ 601024) (hs : slots + 366 ≤ 7293034) (kk : ∀ (o' : Nat → Int64) (M' : Mm), INV M' → G p l e room_1 s m args below meth c Q D ca B (TL cl B o') (AB B) 7 (cells + 61) (slots + 366) M' 2438 [(4, .int (nI (6 * j))), (0, .ref b), (1, .ref (B + 0)), (2, .ref (B + 709)), (3, .ref (B + 717))] []) : G p l e room_1 s m args below meth c Q D ca B (TL cl B o) (AB B) 7 (cells) (slots) M 2142 [(4, .int (nI (6 * j))), (0, .ref b), (1, .ref (B + 0)), (2, .ref (B + 709)), (3, .ref (B + 717))] [] := by
  refine g_aload_n F dL_law_2142 rfl 2 rfl ?_
  refine g_aload_n F dL_law_2143 rfl 1 rfl ?_
  refine g_iload F dL_law_2144 0 rfl ?_
  refine g_iconst F (v := 1) dL_law_2146 (by decide) ?_
  refine g_iadd F dL_law_2147 ?_
  refine g_sld F hX hb hbA (6 * j + 1) (nI_ad (6 * j) 1) (by omega) hL9 dL_law_2148 ?_
  refine g_i2l F dL_law_2149 ?_
  refine g_bipush F (v := 32) dL_law_2150 (by decide) ?_
  refine g_lshl F dL_law_2152 ?_
  refine g_aload_n F dL_law_2153 rfl 1 rfl ?_
  refine g_iload F dL_law_2154 0 rfl ?_
  refine g_iconst F (v := 2) dL_law_2156 (by decide) ?_
  refine g_iadd F dL_law_2157 ?_
  refine g_sld F hX hb hbA (6 * j + 2) (nI_ad (6 * j) 2) (by omega) hL9 dL_law_2158 ?_
  refine g_i2l F dL_law_2159 ?_
  refine g_ldc2 F (by first | exact List.mem_of_getElem? (i := 7) rfl | decide +kernel) dL_law_2160 ?_
  refine g_land F dL_law_2163 ?_
  refine g_lor F dL_law_2164 ?_
  refine g_aload_n F dL_law_2165 rfl 4 rfl ?_
  refine g_callW F hN hL (S_put l hls I _) (vx_cwSW 3 F.1.2.2.2.2 gL_law_L_put rfl rfl rfl (by decide +kernel) ⟨Nat.le_of_ble_eq_true rfl, Nat.le_of_ble_eq_true rfl⟩) rfl rfl rfl (Nat.le_of_ble_eq_true rfl) dL_law_2166 ⟨by show cells + 2 ≤ 601024; omega, by show slots + 12 ≤ 7293034; omega⟩ (fun k9 o9 u9 hu9 => ?_)
  obtain ⟨post9, hM9, hq9⟩ := hu9
  refine g_istore F (lv2 := [(5, _), (4, _), (0, _), (1, _), (2, _), (3, _)]) dL_law_2169 (by decide) rfl ?_
  refine g_aload_n F dL_law_2171 rfl 4 rfl ?_
  refine g_aload_n F dL_law_2172 rfl 2 rfl ?_
  refine g_iload F dL_law_2173 1 rfl ?_
  refine g_iconst F (v := 1) dL_law_2175 (by decide) ?_
  refine g_iadd F dL_law_2176 ?_
  refine g_sld F hX hb hbA (6 * j + 1) (nI_ad (6 * j) 1) (by omega) hL9 dL_law_2177 ?_
  refine g_i2l F dL_law_2178 ?_
  refine g_bipush F (v := 32) dL_law_2179 (by decide) ?_
  refine g_lshl F dL_law_2181 ?_
  refine g_aload_n F dL_law_2182 rfl 2 rfl ?_
  refine g_iload F dL_law_2183 1 rfl ?_
  refine g_iconst F (v := 2) dL_law_2185 (by decide) ?_
  refine g_iadd F dL_law_2186 ?_
  refine g_sld F hX hb hbA (6 * j + 2) (nI_ad (6 * j) 2) (by omega) hL9 dL_law_2187 ?_
  refine g_i2l F dL_law_2188 ?_
  refine g_ldc2 F (by first | exact List.mem_of_getElem? (i := 7) rfl | decide +kernel) dL_law_2189 ?_
  refine g_land F dL_law_2192 ?_
  refine g_lor F dL_law_2193 ?_
  refine g_callV F hM9 (cwV 1 F.1.2.2.2.2 gL_law_X9_put rfl rfl rfl (by decide +kernel) ⟨Nat.le_of_ble_eq_true rfl, Nat.le_of_ble_eq_true rfl⟩) r709 (by decide) rfl rfl rfl rfl (Nat.le_of_ble_eq_true rfl) dL_law_2194 ⟨by show cells + 2 + 0 ≤ 601024; omega, by show slots + 12 + 0 ≤ 7293034; omega⟩ (fun v9 u2 hv9 => ?_)
  obtain ⟨b9, rfl, hcc, ho, hI⟩ := hq9 _ _ _ hv9
  refine g_istore F (lv2 := [(6, _), (5, _), (4, _), (0, _), (1, _), (2, _), (3, _)]) dL_law_2197 (by decide) rfl ?_
  refine g_aload_n F dL_law_2199 rfl 5 rfl ?_
  refine g_callV F (kX9_thrown l) (cwV 0 F.1.2.2.2.2 gL_law_X9_thrown rfl rfl rfl (by decide +kernel) ⟨Nat.le_of_ble_eq_true rfl, Nat.le_of_ble_eq_true rfl⟩) r709 (by decide) rfl rfl rfl rfl (Nat.le_of_ble_eq_true rfl) dL_law_2200 ⟨by show cells + 2 + 0 ≤ 601024; omega, by show slots + 12 + 0 ≤ 7293034; omega⟩ (g_det ?_)
  refine g_iload F dL_law_2203 1 rfl ?_
  refine g_icmp_eq F 2210 dL_law_2205 (by decide) (fun h1 => ?_) (fun h1 => absurd hcc h1)
  refine g_iload F dL_law_2210 1 rfl ?_
  refine g_if_ne F 2227 dL_law_2212 (by decide) (fun h1 => ?_) (fun h1 => ?_)
  · refine g_goto F 2438 dL_law_2227 (by decide) ?_
    refine g_lv (lv2 := [(4, .int (nI (6 * j))), (0, .ref b), (1, .ref (B + 0)), (2, .ref (B + 709)), (3, .ref (B + 717))]) [2, 3, 4, 5, 6] rfl ?_
    refine g_widen (k := cells + 61) (n := slots + 366) (by show cells + 2 ≤ cells + 61; omega) (by show slots + 12 ≤ slots + 366; omega) ?_
    exact kk _ _ hI
  · refine g_aload_n F dL_law_2215 rfl 6 rfl ?_
    refine g_iconst F (v := 0) dL_law_2216 (by decide) ?_
    refine g_outld F hL dL_law_2217 ?_
    refine g_iload F dL_law_2218 0 rfl ?_
    refine g_i2l F dL_law_2220 ?_
    refine g_lcmp F dL_law_2221 ?_
    refine g_if_eq F 2227 dL_law_2222 (by decide) (fun h2 => ?_) (fun h2 => absurd (lg_eq0.mpr (ho h1)) h2)
    refine g_goto F 2438 dL_law_2227 (by decide) ?_
    refine g_lv (lv2 := [(4, .int (nI (6 * j))), (0, .ref b), (1, .ref (B + 0)), (2, .ref (B + 709)), (3, .ref (B + 717))]) [2, 3, 4, 5, 6] rfl ?_
    refine g_widen (k := cells + 61) (n := slots + 366) (by show cells + 2 ≤ cells + 61; omega) (by show slots + 12 ≤ slots + 366; omega) ?_
    exact kk _ _ hI
set_option maxHeartbeats 2000000 in
set_option maxRecDepth 100000 in
theorem law_c33 (hls : l.stackTraces = false) (F : Fx p room_1 s m args meth c cL_law 7 wsL_law RL D ca (AB B)) (hN : Nc3 s) (hL : va_K D vwCl [(cl, .long)] s) (hX : va_X b L xs s s.heap) (hb : b < s.heap.size) (hbA : ¬ AB B b) (hL9 : L ≤ 3072) (hj : 6 * j + 5 < L) (I : INV M) (hc : cells + 61 ≤ 601024) (hs : slots + 366 ≤ 7293034) (kk : ∀ (o' : Nat → Int64) (M' : Mm), INV M' → G p l e room_1 s m args below meth c Q D ca B (TL cl B o') (AB B) 7 (cells + 61) (slots + 366) M' 2438 [(4, .int (nI (6 * j))), (0, .ref b), (1, .ref (B + 0)), (2, .ref (B + 709)), (3, .ref (B + 717))] []) : G p l e room_1 s m args below meth c Q D ca B (TL cl B o) (AB B) 7 (cells) (slots) M 2230 [(4, .int (nI (6 * j))), (0, .ref b), (1, .ref (B + 0)), (2, .ref (B + 709)), (3, .ref (B + 717))] [] := by
  refine g_aload_n F dL_law_2230 rfl 2 rfl ?_
  obtain ⟨post8, hM8, hq8⟩ := S_wipe l I
  refine g_callV F hM8 (cwV 0 F.1.2.2.2.2 gL_law_X8_wipe rfl rfl rfl (by decide +kernel) ⟨Nat.le_of_ble_eq_true rfl, Nat.le_of_ble_eq_true rfl⟩) r0 (by decide) rfl rfl rfl rfl (Nat.le_of_ble_eq_true rfl) dL_law_2231 ⟨by show cells + 0 ≤ 601024; omega, by show slots + 0 ≤ 7293034; omega⟩ (fun v8 u8 hv8 => ?_)
  obtain ⟨a8, rfl, post9, hM9, hq9⟩ := hq8 _ _ _ hv8
  refine g_aload_n F dL_law_2234 rfl 3 rfl ?_
  refine g_callV F hM9 (cwV 0 F.1.2.2.2.2 gL_law_X9_wipe rfl rfl rfl (by decide +kernel) ⟨Nat.le_of_ble_eq_true rfl, Nat.le_of_ble_eq_true rfl⟩) r709 (by decide) rfl rfl rfl rfl (Nat.le_of_ble_eq_true rfl) dL_law_2235 ⟨by show cells + 0 + 0 ≤ 601024; omega, by show slots + 0 + 0 ≤ 7293034; omega⟩ (fun v9 u2 hv9 => ?_)
  obtain ⟨b9, rfl, hab, hI⟩ := hq9 _ _ _ hv9
  refine g_icmp_eq F 2438 dL_law_2238 (by decide) (fun h1 => ?_) (fun h1 => absurd hab h1)
  refine g_widen (k := cells + 61) (n := slots + 366) (by show cells + 0 ≤ cells + 61; omega) (by show slots + 0 ≤ slots + 366; omega) ?_
  exact kk _ _ hI
set_option maxHeartbeats 2000000 in
set_option maxRecDepth 100000 in
theorem law_c34 (hls : l.stackTraces = false) (F : Fx p room_1 s m args meth c cL_law 7 wsL_law RL D ca (AB B)) (hN : Nc3 s) (hL : va_K D vwCl [(cl, .long)] s) (hX : va_X b L xs s s.heap) (hb : b < s.heap.size) (hbA : ¬ AB B b) (hL9 : L ≤ 3072) (hj : 6 * j + 5 < L) (I : INV M) (hc : cells + 61 ≤ 601024) (hs : slots + 366 ≤ 7293034) (kk : ∀ (o' : Nat → Int64) (M' : Mm), INV M' → G p l e room_1 s m args below meth c Q D ca B (TL cl B o') (AB B) 7 (cells + 61) (slots + 366) M' 2438 [(4, .int (nI (6 * j))), (0, .ref b), (1, .ref (B + 0)), (2, .ref (B + 709)), (3, .ref (B + 717))] []) : G p l e room_1 s m args below meth c Q D ca B (TL cl B o) (AB B) 7 (cells) (slots) M 2243 [(4, .int (nI (6 * j))), (0, .ref b), (1, .ref (B + 0)), (2, .ref (B + 709)), (3, .ref (B + 717))] [] := by
  refine g_aload_n F dL_law_2243 rfl 2 rfl ?_
  obtain ⟨post8, hM8, hq8⟩ := S_padLength l I
  refine g_callV F hM8 (cwV 0 F.1.2.2.2.2 gL_law_X8_padLength rfl rfl rfl (by decide +kernel) ⟨Nat.le_of_ble_eq_true rfl, Nat.le_of_ble_eq_true rfl⟩) r0 (by decide) rfl rfl rfl rfl (Nat.le_of_ble_eq_true rfl) dL_law_2244 ⟨by show cells + 0 ≤ 601024; omega, by show slots + 0 ≤ 7293034; omega⟩ (fun v8 u8 hv8 => ?_)
  obtain ⟨a8, rfl, post9, hM9, hq9⟩ := hq8 _ _ _ hv8
  refine g_aload_n F dL_law_2247 rfl 3 rfl ?_
  refine g_callV F hM9 (cwV 0 F.1.2.2.2.2 gL_law_X9_padLength rfl rfl rfl (by decide +kernel) ⟨Nat.le_of_ble_eq_true rfl, Nat.le_of_ble_eq_true rfl⟩) r709 (by decide) rfl rfl rfl rfl (Nat.le_of_ble_eq_true rfl) dL_law_2248 ⟨by show cells + 0 + 0 ≤ 601024; omega, by show slots + 0 + 0 ≤ 7293034; omega⟩ (fun v9 u2 hv9 => ?_)
  obtain ⟨b9, rfl, hab, hI⟩ := hq9 _ _ _ hv9
  refine g_icmp_eq F 2438 dL_law_2251 (by decide) (fun h1 => ?_) (fun h1 => absurd hab h1)
  refine g_widen (k := cells + 61) (n := slots + 366) (by show cells + 0 ≤ cells + 61; omega) (by show slots + 0 ≤ slots + 366; omega) ?_
  exact kk _ _ hI
set_option maxHeartbeats 2000000 in
set_option maxRecDepth 100000 in
theorem law_c35 (hls : l.stackTraces = false) (F : Fx p room_1 s m args meth c cL_law 7 wsL_law RL D ca (AB B)) (hN : Nc3 s) (hL : va_K D vwCl [(cl, .long)] s) (hX : va_X b L xs s s.heap) (hb : b < s.heap.size) (hbA : ¬ AB B b) (hL9 : L ≤ 3072) (hj : 6 * j + 5 < L) (I : INV M) (hc : cells + 61 ≤ 601024) (hs : slots + 366 ≤ 7293034) (kk : ∀ (o' : Nat → Int64) (M' : Mm), INV M' → G p l e room_1 s m args below meth c Q D ca B (TL cl B o') (AB B) 7 (cells + 61) (slots + 366) M' 2438 [(4, .int (nI (6 * j))), (0, .ref b), (1, .ref (B + 0)), (2, .ref (B + 709)), (3, .ref (B + 717))] []) : G p l e room_1 s m args below meth c Q D ca B (TL cl B o) (AB B) 7 (cells) (slots) M 2256 [(4, .int (nI (6 * j))), (0, .ref b), (1, .ref (B + 0)), (2, .ref (B + 709)), (3, .ref (B + 717))] [] := by
  refine g_aload_n F dL_law_2256 rfl 2 rfl ?_
  obtain ⟨post8, hM8, hq8⟩ := S_fault l I
  refine g_callV F hM8 (cwV 0 F.1.2.2.2.2 gL_law_X8_fault rfl rfl rfl (by decide +kernel) ⟨Nat.le_of_ble_eq_true rfl, Nat.le_of_ble_eq_true rfl⟩) r0 (by decide) rfl rfl rfl rfl (Nat.le_of_ble_eq_true rfl) dL_law_2257 ⟨by show cells + 0 ≤ 601024; omega, by show slots + 0 ≤ 7293034; omega⟩ (fun v8 u8 hv8 => ?_)
  obtain ⟨a8, rfl, post9, hM9, hq9⟩ := hq8 _ _ _ hv8
  refine g_aload_n F dL_law_2260 rfl 3 rfl ?_
  refine g_callV F hM9 (cwV 0 F.1.2.2.2.2 gL_law_X9_fault rfl rfl rfl (by decide +kernel) ⟨Nat.le_of_ble_eq_true rfl, Nat.le_of_ble_eq_true rfl⟩) r709 (by decide) rfl rfl rfl rfl (Nat.le_of_ble_eq_true rfl) dL_law_2261 ⟨by show cells + 0 + 0 ≤ 601024; omega, by show slots + 0 + 0 ≤ 7293034; omega⟩ (fun v9 u2 hv9 => ?_)
  obtain ⟨b9, rfl, hab, hI⟩ := hq9 _ _ _ hv9
  refine g_icmp_eq F 2438 dL_law_2264 (by decide) (fun h1 => ?_) (fun h1 => absurd hab h1)
  refine g_widen (k := cells + 61) (n := slots + 366) (by show cells + 0 ≤ cells + 61; omega) (by show slots + 0 ≤ slots + 366; omega) ?_
  exact kk _ _ hI
set_option maxHeartbeats 2000000 in
set_option maxRecDepth 100000 in
theorem law_c36 (hls : l.stackTraces = false) (F : Fx p room_1 s m args meth c cL_law 7 wsL_law RL D ca (AB B)) (hN : Nc3 s) (hL : va_K D vwCl [(cl, .long)] s) (hX : va_X b L xs s s.heap) (hb : b < s.heap.size) (hbA : ¬ AB B b) (hL9 : L ≤ 3072) (hj : 6 * j + 5 < L) (I : INV M) (hc : cells + 61 ≤ 601024) (hs : slots + 366 ≤ 7293034) (kk : ∀ (o' : Nat → Int64) (M' : Mm), INV M' → G p l e room_1 s m args below meth c Q D ca B (TL cl B o') (AB B) 7 (cells + 61) (slots + 366) M' 2438 [(4, .int (nI (6 * j))), (0, .ref b), (1, .ref (B + 0)), (2, .ref (B + 709)), (3, .ref (B + 717))] []) : G p l e room_1 s m args below meth c Q D ca B (TL cl B o) (AB B) 7 (cells) (slots) M 2269 [(4, .int (nI (6 * j))), (0, .ref b), (1, .ref (B + 0)), (2, .ref (B + 709)), (3, .ref (B + 717))] [] := by
  refine g_aload_n F dL_law_2269 rfl 2 rfl ?_
  refine g_aload_n F dL_law_2270 rfl 4 rfl ?_
  refine g_callW F hN hL (S_undo l hls I ) (vx_cwSW 2 F.1.2.2.2.2 gL_law_L_undo rfl rfl rfl (by decide +kernel) ⟨Nat.le_of_ble_eq_true rfl, Nat.le_of_ble_eq_true rfl⟩) rfl rfl rfl (Nat.le_of_ble_eq_true rfl) dL_law_2271 ⟨by show cells + 1 ≤ 601024; omega, by show slots + 6 ≤ 7293034; omega⟩ (fun k9 o9 u9 hu9 => ?_)
  obtain ⟨post9, hM9, hq9⟩ := hu9
  refine g_istore F (lv2 := [(5, _), (4, _), (0, _), (1, _), (2, _), (3, _)]) dL_law_2274 (by decide) rfl ?_
  refine g_aload_n F dL_law_2276 rfl 4 rfl ?_
  refine g_callV F hM9 (cwV 0 F.1.2.2.2.2 gL_law_X9_undo rfl rfl rfl (by decide +kernel) ⟨Nat.le_of_ble_eq_true rfl, Nat.le_of_ble_eq_true rfl⟩) r709 (by decide) rfl rfl rfl rfl (Nat.le_of_ble_eq_true rfl) dL_law_2277 ⟨by show cells + 1 + 0 ≤ 601024; omega, by show slots + 6 + 0 ≤ 7293034; omega⟩ (fun v9 u2 hv9 => ?_)
  obtain ⟨b9, rfl, hcc, ho, hI⟩ := hq9 _ _ _ hv9
  refine g_istore F (lv2 := [(6, _), (5, _), (4, _), (0, _), (1, _), (2, _), (3, _)]) dL_law_2280 (by decide) rfl ?_
  refine g_aload_n F dL_law_2282 rfl 5 rfl ?_
  refine g_callV F (kX9_thrown l) (cwV 0 F.1.2.2.2.2 gL_law_X9_thrown rfl rfl rfl (by decide +kernel) ⟨Nat.le_of_ble_eq_true rfl, Nat.le_of_ble_eq_true rfl⟩) r709 (by decide) rfl rfl rfl rfl (Nat.le_of_ble_eq_true rfl) dL_law_2283 ⟨by show cells + 1 + 0 ≤ 601024; omega, by show slots + 6 + 0 ≤ 7293034; omega⟩ (g_det ?_)
  refine g_iload F dL_law_2286 1 rfl ?_
  refine g_icmp_eq F 2293 dL_law_2288 (by decide) (fun h1 => ?_) (fun h1 => absurd hcc h1)
  refine g_iload F dL_law_2293 1 rfl ?_
  refine g_if_ne F 2310 dL_law_2295 (by decide) (fun h1 => ?_) (fun h1 => ?_)
  · refine g_goto F 2438 dL_law_2310 (by decide) ?_
    refine g_lv (lv2 := [(4, .int (nI (6 * j))), (0, .ref b), (1, .ref (B + 0)), (2, .ref (B + 709)), (3, .ref (B + 717))]) [2, 3, 4, 5, 6] rfl ?_
    refine g_widen (k := cells + 61) (n := slots + 366) (by show cells + 1 ≤ cells + 61; omega) (by show slots + 6 ≤ slots + 366; omega) ?_
    exact kk _ _ hI
  · refine g_aload_n F dL_law_2298 rfl 6 rfl ?_
    refine g_iconst F (v := 0) dL_law_2299 (by decide) ?_
    refine g_outld F hL dL_law_2300 ?_
    refine g_iload F dL_law_2301 0 rfl ?_
    refine g_i2l F dL_law_2303 ?_
    refine g_lcmp F dL_law_2304 ?_
    refine g_if_eq F 2310 dL_law_2305 (by decide) (fun h2 => ?_) (fun h2 => absurd (lg_eq0.mpr (ho h1)) h2)
    refine g_goto F 2438 dL_law_2310 (by decide) ?_
    refine g_lv (lv2 := [(4, .int (nI (6 * j))), (0, .ref b), (1, .ref (B + 0)), (2, .ref (B + 709)), (3, .ref (B + 717))]) [2, 3, 4, 5, 6] rfl ?_
    refine g_widen (k := cells + 61) (n := slots + 366) (by show cells + 1 ≤ cells + 61; omega) (by show slots + 6 ≤ slots + 366; omega) ?_
    exact kk _ _ hI
set_option maxHeartbeats 2000000 in
set_option maxRecDepth 100000 in
theorem law_c37 (hls : l.stackTraces = false) (F : Fx p room_1 s m args meth c cL_law 7 wsL_law RL D ca (AB B)) (hN : Nc3 s) (hL : va_K D vwCl [(cl, .long)] s) (hX : va_X b L xs s s.heap) (hb : b < s.heap.size) (hbA : ¬ AB B b) (hL9 : L ≤ 3072) (hj : 6 * j + 5 < L) (I : INV M) (hc : cells + 61 ≤ 601024) (hs : slots + 366 ≤ 7293034) (kk : ∀ (o' : Nat → Int64) (M' : Mm), INV M' → G p l e room_1 s m args below meth c Q D ca B (TL cl B o') (AB B) 7 (cells + 61) (slots + 366) M' 2438 [(4, .int (nI (6 * j))), (0, .ref b), (1, .ref (B + 0)), (2, .ref (B + 709)), (3, .ref (B + 717))] []) : G p l e room_1 s m args below meth c Q D ca B (TL cl B o) (AB B) 7 (cells) (slots) M 2313 [(4, .int (nI (6 * j))), (0, .ref b), (1, .ref (B + 0)), (2, .ref (B + 709)), (3, .ref (B + 717))] [] := by
  refine g_aload_n F dL_law_2313 rfl 2 rfl ?_
  obtain ⟨post8, hM8, hq8⟩ := S_undoable l I
  refine g_callV F hM8 (cwV 0 F.1.2.2.2.2 gL_law_X8_undoable rfl rfl rfl (by decide +kernel) ⟨Nat.le_of_ble_eq_true rfl, Nat.le_of_ble_eq_true rfl⟩) r0 (by decide) rfl rfl rfl rfl (Nat.le_of_ble_eq_true rfl) dL_law_2314 ⟨by show cells + 0 ≤ 601024; omega, by show slots + 0 ≤ 7293034; omega⟩ (fun v8 u8 hv8 => ?_)
  obtain ⟨a8, rfl, post9, hM9, hq9⟩ := hq8 _ _ _ hv8
  refine g_aload_n F dL_law_2317 rfl 3 rfl ?_
  refine g_callV F hM9 (cwV 0 F.1.2.2.2.2 gL_law_X9_undoable rfl rfl rfl (by decide +kernel) ⟨Nat.le_of_ble_eq_true rfl, Nat.le_of_ble_eq_true rfl⟩) r709 (by decide) rfl rfl rfl rfl (Nat.le_of_ble_eq_true rfl) dL_law_2318 ⟨by show cells + 0 + 0 ≤ 601024; omega, by show slots + 0 + 0 ≤ 7293034; omega⟩ (fun v9 u2 hv9 => ?_)
  obtain ⟨b9, rfl, hab, hI⟩ := hq9 _ _ _ hv9
  refine g_icmp_eq F 2438 dL_law_2321 (by decide) (fun h1 => ?_) (fun h1 => absurd hab h1)
  refine g_widen (k := cells + 61) (n := slots + 366) (by show cells + 0 ≤ cells + 61; omega) (by show slots + 0 ≤ slots + 366; omega) ?_
  exact kk _ _ hI
set_option maxHeartbeats 2000000 in
set_option maxRecDepth 100000 in
theorem law_c38 (hls : l.stackTraces = false) (F : Fx p room_1 s m args meth c cL_law 7 wsL_law RL D ca (AB B)) (hN : Nc3 s) (hL : va_K D vwCl [(cl, .long)] s) (hX : va_X b L xs s s.heap) (hb : b < s.heap.size) (hbA : ¬ AB B b) (hL9 : L ≤ 3072) (hj : 6 * j + 5 < L) (I : INV M) (hc : cells + 61 ≤ 601024) (hs : slots + 366 ≤ 7293034) (kk : ∀ (o' : Nat → Int64) (M' : Mm), INV M' → G p l e room_1 s m args below meth c Q D ca B (TL cl B o') (AB B) 7 (cells + 61) (slots + 366) M' 2438 [(4, .int (nI (6 * j))), (0, .ref b), (1, .ref (B + 0)), (2, .ref (B + 709)), (3, .ref (B + 717))] []) : G p l e room_1 s m args below meth c Q D ca B (TL cl B o) (AB B) 7 (cells) (slots) M 2326 [(4, .int (nI (6 * j))), (0, .ref b), (1, .ref (B + 0)), (2, .ref (B + 709)), (3, .ref (B + 717))] [] := by
  refine g_aload_n F dL_law_2326 rfl 2 rfl ?_
  refine g_aload_n F dL_law_2327 rfl 1 rfl ?_
  refine g_iload F dL_law_2328 0 rfl ?_
  refine g_iconst F (v := 1) dL_law_2330 (by decide) ?_
  refine g_iadd F dL_law_2331 ?_
  refine g_sld F hX hb hbA (6 * j + 1) (nI_ad (6 * j) 1) (by omega) hL9 dL_law_2332 ?_
  refine g_aload_n F dL_law_2333 rfl 4 rfl ?_
  refine g_callW F hN hL (S_save l hls I (xs (6 * j + 1))) (vx_cwSW 3 F.1.2.2.2.2 gL_law_L_save rfl rfl rfl (by decide +kernel) ⟨Nat.le_of_ble_eq_true rfl, Nat.le_of_ble_eq_true rfl⟩) rfl rfl rfl (Nat.le_of_ble_eq_true rfl) dL_law_2334 ⟨by show cells + 1 ≤ 601024; omega, by show slots + 6 ≤ 7293034; omega⟩ (fun k9 o9 u9 hu9 => ?_)
  obtain ⟨post9, hM9, hq9⟩ := hu9
  refine g_istore F (lv2 := [(5, _), (4, _), (0, _), (1, _), (2, _), (3, _)]) dL_law_2337 (by decide) rfl ?_
  refine g_aload_n F dL_law_2339 rfl 4 rfl ?_
  refine g_aload_n F dL_law_2340 rfl 2 rfl ?_
  refine g_iload F dL_law_2341 1 rfl ?_
  refine g_iconst F (v := 1) dL_law_2343 (by decide) ?_
  refine g_iadd F dL_law_2344 ?_
  refine g_sld F hX hb hbA (6 * j + 1) (nI_ad (6 * j) 1) (by omega) hL9 dL_law_2345 ?_
  refine g_callV F hM9 (cwV 1 F.1.2.2.2.2 gL_law_X9_save rfl rfl rfl (by decide +kernel) ⟨Nat.le_of_ble_eq_true rfl, Nat.le_of_ble_eq_true rfl⟩) r709 (by decide) rfl rfl rfl rfl (Nat.le_of_ble_eq_true rfl) dL_law_2346 ⟨by show cells + 1 + 0 ≤ 601024; omega, by show slots + 6 + 0 ≤ 7293034; omega⟩ (fun v9 u2 hv9 => ?_)
  obtain ⟨b9, rfl, hcc, ho, hI⟩ := hq9 _ _ _ hv9
  refine g_istore F (lv2 := [(6, _), (5, _), (4, _), (0, _), (1, _), (2, _), (3, _)]) dL_law_2349 (by decide) rfl ?_
  refine g_aload_n F dL_law_2351 rfl 5 rfl ?_
  refine g_callV F (kX9_thrown l) (cwV 0 F.1.2.2.2.2 gL_law_X9_thrown rfl rfl rfl (by decide +kernel) ⟨Nat.le_of_ble_eq_true rfl, Nat.le_of_ble_eq_true rfl⟩) r709 (by decide) rfl rfl rfl rfl (Nat.le_of_ble_eq_true rfl) dL_law_2352 ⟨by show cells + 1 + 0 ≤ 601024; omega, by show slots + 6 + 0 ≤ 7293034; omega⟩ (g_det ?_)
  refine g_iload F dL_law_2355 1 rfl ?_
  refine g_icmp_eq F 2362 dL_law_2357 (by decide) (fun h1 => ?_) (fun h1 => absurd hcc h1)
  refine g_iload F dL_law_2362 1 rfl ?_
  refine g_if_ne F 2379 dL_law_2364 (by decide) (fun h1 => ?_) (fun h1 => ?_)
  · refine g_goto F 2438 dL_law_2379 (by decide) ?_
    refine g_lv (lv2 := [(4, .int (nI (6 * j))), (0, .ref b), (1, .ref (B + 0)), (2, .ref (B + 709)), (3, .ref (B + 717))]) [2, 3, 4, 5, 6] rfl ?_
    refine g_widen (k := cells + 61) (n := slots + 366) (by show cells + 1 ≤ cells + 61; omega) (by show slots + 6 ≤ slots + 366; omega) ?_
    exact kk _ _ hI
  · refine g_aload_n F dL_law_2367 rfl 6 rfl ?_
    refine g_iconst F (v := 0) dL_law_2368 (by decide) ?_
    refine g_outld F hL dL_law_2369 ?_
    refine g_iload F dL_law_2370 0 rfl ?_
    refine g_i2l F dL_law_2372 ?_
    refine g_lcmp F dL_law_2373 ?_
    refine g_if_eq F 2379 dL_law_2374 (by decide) (fun h2 => ?_) (fun h2 => absurd (lg_eq0.mpr (ho h1)) h2)
    refine g_goto F 2438 dL_law_2379 (by decide) ?_
    refine g_lv (lv2 := [(4, .int (nI (6 * j))), (0, .ref b), (1, .ref (B + 0)), (2, .ref (B + 709)), (3, .ref (B + 717))]) [2, 3, 4, 5, 6] rfl ?_
    refine g_widen (k := cells + 61) (n := slots + 366) (by show cells + 1 ≤ cells + 61; omega) (by show slots + 6 ≤ slots + 366; omega) ?_
    exact kk _ _ hI
set_option maxHeartbeats 2000000 in
set_option maxRecDepth 100000 in
theorem law_c39 (hls : l.stackTraces = false) (F : Fx p room_1 s m args meth c cL_law 7 wsL_law RL D ca (AB B)) (hN : Nc3 s) (hL : va_K D vwCl [(cl, .long)] s) (hX : va_X b L xs s s.heap) (hb : b < s.heap.size) (hbA : ¬ AB B b) (hL9 : L ≤ 3072) (hj : 6 * j + 5 < L) (I : INV M) (hc : cells + 61 ≤ 601024) (hs : slots + 366 ≤ 7293034) (kk : ∀ (o' : Nat → Int64) (M' : Mm), INV M' → G p l e room_1 s m args below meth c Q D ca B (TL cl B o') (AB B) 7 (cells + 61) (slots + 366) M' 2438 [(4, .int (nI (6 * j))), (0, .ref b), (1, .ref (B + 0)), (2, .ref (B + 709)), (3, .ref (B + 717))] []) : G p l e room_1 s m args below meth c Q D ca B (TL cl B o) (AB B) 7 (cells) (slots) M 2382 [(4, .int (nI (6 * j))), (0, .ref b), (1, .ref (B + 0)), (2, .ref (B + 709)), (3, .ref (B + 717))] [] := by
  refine g_aload_n F dL_law_2382 rfl 2 rfl ?_
  refine g_aload_n F dL_law_2383 rfl 1 rfl ?_
  refine g_iload F dL_law_2384 0 rfl ?_
  refine g_iconst F (v := 1) dL_law_2386 (by decide) ?_
  refine g_iadd F dL_law_2387 ?_
  refine g_sld F hX hb hbA (6 * j + 1) (nI_ad (6 * j) 1) (by omega) hL9 dL_law_2388 ?_
  refine g_aload_n F dL_law_2389 rfl 4 rfl ?_
  refine g_callW F hN hL (S_restore l hls I (xs (6 * j + 1))) (vx_cwSW 3 F.1.2.2.2.2 gL_law_L_restore rfl rfl rfl (by decide +kernel) ⟨Nat.le_of_ble_eq_true rfl, Nat.le_of_ble_eq_true rfl⟩) rfl rfl rfl (Nat.le_of_ble_eq_true rfl) dL_law_2390 ⟨by show cells + 2 ≤ 601024; omega, by show slots + 12 ≤ 7293034; omega⟩ (fun k9 o9 u9 hu9 => ?_)
  obtain ⟨post9, hM9, hq9⟩ := hu9
  refine g_istore F (lv2 := [(5, _), (4, _), (0, _), (1, _), (2, _), (3, _)]) dL_law_2393 (by decide) rfl ?_
  refine g_aload_n F dL_law_2395 rfl 4 rfl ?_
  refine g_aload_n F dL_law_2396 rfl 2 rfl ?_
  refine g_iload F dL_law_2397 1 rfl ?_
  refine g_iconst F (v := 1) dL_law_2399 (by decide) ?_
  refine g_iadd F dL_law_2400 ?_
  refine g_sld F hX hb hbA (6 * j + 1) (nI_ad (6 * j) 1) (by omega) hL9 dL_law_2401 ?_
  refine g_callV F hM9 (cwV 1 F.1.2.2.2.2 gL_law_X9_restore rfl rfl rfl (by decide +kernel) ⟨Nat.le_of_ble_eq_true rfl, Nat.le_of_ble_eq_true rfl⟩) r709 (by decide) rfl rfl rfl rfl (Nat.le_of_ble_eq_true rfl) dL_law_2402 ⟨by show cells + 2 + 0 ≤ 601024; omega, by show slots + 12 + 0 ≤ 7293034; omega⟩ (fun v9 u2 hv9 => ?_)
  obtain ⟨b9, rfl, hcc, ho, hI⟩ := hq9 _ _ _ hv9
  refine g_istore F (lv2 := [(6, _), (5, _), (4, _), (0, _), (1, _), (2, _), (3, _)]) dL_law_2405 (by decide) rfl ?_
  refine g_aload_n F dL_law_2407 rfl 5 rfl ?_
  refine g_callV F (kX9_thrown l) (cwV 0 F.1.2.2.2.2 gL_law_X9_thrown rfl rfl rfl (by decide +kernel) ⟨Nat.le_of_ble_eq_true rfl, Nat.le_of_ble_eq_true rfl⟩) r709 (by decide) rfl rfl rfl rfl (Nat.le_of_ble_eq_true rfl) dL_law_2408 ⟨by show cells + 2 + 0 ≤ 601024; omega, by show slots + 12 + 0 ≤ 7293034; omega⟩ (g_det ?_)
  refine g_iload F dL_law_2411 1 rfl ?_
  refine g_icmp_eq F 2418 dL_law_2413 (by decide) (fun h1 => ?_) (fun h1 => absurd hcc h1)
  refine g_iload F dL_law_2418 1 rfl ?_
  refine g_if_ne F 2435 dL_law_2420 (by decide) (fun h1 => ?_) (fun h1 => ?_)
  · refine g_goto F 2438 dL_law_2435 (by decide) ?_
    refine g_lv (lv2 := [(4, .int (nI (6 * j))), (0, .ref b), (1, .ref (B + 0)), (2, .ref (B + 709)), (3, .ref (B + 717))]) [2, 3, 4, 5, 6] rfl ?_
    refine g_widen (k := cells + 61) (n := slots + 366) (by show cells + 2 ≤ cells + 61; omega) (by show slots + 12 ≤ slots + 366; omega) ?_
    exact kk _ _ hI
  · refine g_aload_n F dL_law_2423 rfl 6 rfl ?_
    refine g_iconst F (v := 0) dL_law_2424 (by decide) ?_
    refine g_outld F hL dL_law_2425 ?_
    refine g_iload F dL_law_2426 0 rfl ?_
    refine g_i2l F dL_law_2428 ?_
    refine g_lcmp F dL_law_2429 ?_
    refine g_if_eq F 2435 dL_law_2430 (by decide) (fun h2 => ?_) (fun h2 => absurd (lg_eq0.mpr (ho h1)) h2)
    refine g_goto F 2438 dL_law_2435 (by decide) ?_
    refine g_lv (lv2 := [(4, .int (nI (6 * j))), (0, .ref b), (1, .ref (B + 0)), (2, .ref (B + 709)), (3, .ref (B + 717))]) [2, 3, 4, 5, 6] rfl ?_
    refine g_widen (k := cells + 61) (n := slots + 366) (by show cells + 2 ≤ cells + 61; omega) (by show slots + 12 ≤ slots + 366; omega) ?_
    exact kk _ _ hI
end LAWC
