section LAWC
variable {p : Program} {l : Launch} {e : Env} {s : State} {m : MethodId} {args : Array Value} {below : List Frame} {meth : Method} {c : Code} {Q : State → Prop} {D : va_G} {ca : Nat → ClassId} {cl : ClassId} {o : Nat → Int64} {B b L j : Nat} {xs : Nat → Int32} {cells slots : Nat} {M : Mm}

set_option maxHeartbeats 2000000 in
set_option maxRecDepth 100000 in
theorem law_c10 (hls : l.stackTraces = false) (F : Fx p room_1 s m args meth c cL_law 7 wsL_law RL D ca (AB B)) (hN : Nc3 s) (hL : va_K D vwCl [(cl, .long)] s) (hX : va_X b L xs s s.heap) (hb : b < s.heap.size) (hbA : ¬ AB B b) (hL9 : L ≤ 3072) (hj : 6 * j + 5 < L) (I : INV M) (hc : cells + 61 ≤ 601024) (hs : slots + 366 ≤ 7293034) (kk : ∀ (o' : Nat → Int64) (M' : Mm), INV M' → G p l e room_1 s m args below meth c Q D ca B (TL cl B o') (AB B) 7 (cells + 61) (slots + 366) M' 2438 [(4, .int (nI (6 * j))), (0, .ref b), (1, .ref (B + 0)), (2, .ref (B + 709)), (3, .ref (B + 717))] []) : G p l e room_1 s m args below meth c Q D ca B (TL cl B o) (AB B) 7 (cells) (slots) M 891 [(4, .int (nI (6 * j))), (0, .ref b), (1, .ref (B + 0)), (2, .ref (B + 709)), (3, .ref (B + 717))] [] := by
  refine g_aload_n F dL_law_891 rfl 2 rfl ?_
  refine g_aload_n F dL_law_892 rfl 1 rfl ?_
  refine g_iload F dL_law_893 0 rfl ?_
  refine g_iconst F (v := 1) dL_law_895 (by decide) ?_
  refine g_iadd F dL_law_896 ?_
  refine g_sld F hX hb hbA (6 * j + 1) (nI_ad (6 * j) 1) (by omega) hL9 dL_law_897 ?_
  refine g_aload_n F dL_law_898 rfl 1 rfl ?_
  refine g_iload F dL_law_899 0 rfl ?_
  refine g_iconst F (v := 2) dL_law_901 (by decide) ?_
  refine g_iadd F dL_law_902 ?_
  refine g_sld F hX hb hbA (6 * j + 2) (nI_ad (6 * j) 2) (by omega) hL9 dL_law_903 ?_
  refine g_aload_n F dL_law_904 rfl 1 rfl ?_
  refine g_iload F dL_law_905 0 rfl ?_
  refine g_iconst F (v := 3) dL_law_907 (by decide) ?_
  refine g_iadd F dL_law_908 ?_
  refine g_sld F hX hb hbA (6 * j + 3) (nI_ad (6 * j) 3) (by omega) hL9 dL_law_909 ?_
  refine g_aload_n F dL_law_910 rfl 1 rfl ?_
  refine g_iload F dL_law_911 0 rfl ?_
  refine g_iconst F (v := 4) dL_law_913 (by decide) ?_
  refine g_iadd F dL_law_914 ?_
  refine g_sld F hX hb hbA (6 * j + 4) (nI_ad (6 * j) 4) (by omega) hL9 dL_law_915 ?_
  refine g_bool F 923 924 dL_law_916 (by decide) dL_law_919 dL_law_920 (by decide) dL_law_923 rfl ?_
  refine g_aload_n F dL_law_924 rfl 4 rfl ?_
  refine g_callW F hN hL (S_smoke l hls I (xs (6 * j + 1)) (xs (6 * j + 2)) (xs (6 * j + 3)) (b2i (¬ (xs (6 * j + 4)) = 0))) (vx_cwSW 6 F.1.2.2.2.2 gL_law_L_smoke rfl rfl rfl (by decide +kernel) ⟨Nat.le_of_ble_eq_true rfl, Nat.le_of_ble_eq_true rfl⟩) rfl rfl rfl (Nat.le_of_ble_eq_true rfl) dL_law_925 ⟨by show cells + 2 ≤ 601024; omega, by show slots + 12 ≤ 7293034; omega⟩ (fun k9 o9 u9 hu9 => ?_)
  obtain ⟨post9, hM9, hq9⟩ := hu9
  refine g_istore F (lv2 := [(5, _), (4, _), (0, _), (1, _), (2, _), (3, _)]) dL_law_928 (by decide) rfl ?_
  refine g_aload_n F dL_law_930 rfl 4 rfl ?_
  refine g_aload_n F dL_law_931 rfl 2 rfl ?_
  refine g_iload F dL_law_932 1 rfl ?_
  refine g_iconst F (v := 1) dL_law_934 (by decide) ?_
  refine g_iadd F dL_law_935 ?_
  refine g_sld F hX hb hbA (6 * j + 1) (nI_ad (6 * j) 1) (by omega) hL9 dL_law_936 ?_
  refine g_aload_n F dL_law_937 rfl 2 rfl ?_
  refine g_iload F dL_law_938 1 rfl ?_
  refine g_iconst F (v := 2) dL_law_940 (by decide) ?_
  refine g_iadd F dL_law_941 ?_
  refine g_sld F hX hb hbA (6 * j + 2) (nI_ad (6 * j) 2) (by omega) hL9 dL_law_942 ?_
  refine g_aload_n F dL_law_943 rfl 2 rfl ?_
  refine g_iload F dL_law_944 1 rfl ?_
  refine g_iconst F (v := 3) dL_law_946 (by decide) ?_
  refine g_iadd F dL_law_947 ?_
  refine g_sld F hX hb hbA (6 * j + 3) (nI_ad (6 * j) 3) (by omega) hL9 dL_law_948 ?_
  refine g_aload_n F dL_law_949 rfl 2 rfl ?_
  refine g_iload F dL_law_950 1 rfl ?_
  refine g_iconst F (v := 4) dL_law_952 (by decide) ?_
  refine g_iadd F dL_law_953 ?_
  refine g_sld F hX hb hbA (6 * j + 4) (nI_ad (6 * j) 4) (by omega) hL9 dL_law_954 ?_
  refine g_bool F 962 963 dL_law_955 (by decide) dL_law_958 dL_law_959 (by decide) dL_law_962 rfl ?_
  refine g_callV F hM9 (cwV 4 F.1.2.2.2.2 gL_law_X9_smoke rfl rfl rfl (by decide +kernel) ⟨Nat.le_of_ble_eq_true rfl, Nat.le_of_ble_eq_true rfl⟩) r709 (by decide) rfl rfl rfl rfl (Nat.le_of_ble_eq_true rfl) dL_law_963 ⟨by show cells + 2 + 0 ≤ 601024; omega, by show slots + 12 + 0 ≤ 7293034; omega⟩ (fun v9 u2 hv9 => ?_)
  obtain ⟨b9, rfl, hcc, ho, hI⟩ := hq9 _ _ _ hv9
  refine g_istore F (lv2 := [(6, _), (5, _), (4, _), (0, _), (1, _), (2, _), (3, _)]) dL_law_966 (by decide) rfl ?_
  refine g_aload_n F dL_law_968 rfl 5 rfl ?_
  refine g_callV F (kX9_thrown l) (cwV 0 F.1.2.2.2.2 gL_law_X9_thrown rfl rfl rfl (by decide +kernel) ⟨Nat.le_of_ble_eq_true rfl, Nat.le_of_ble_eq_true rfl⟩) r709 (by decide) rfl rfl rfl rfl (Nat.le_of_ble_eq_true rfl) dL_law_969 ⟨by show cells + 2 + 0 ≤ 601024; omega, by show slots + 12 + 0 ≤ 7293034; omega⟩ (g_det ?_)
  refine g_iload F dL_law_972 1 rfl ?_
  refine g_icmp_eq F 979 dL_law_974 (by decide) (fun h1 => ?_) (fun h1 => absurd hcc h1)
  refine g_iload F dL_law_979 1 rfl ?_
  refine g_if_ne F 996 dL_law_981 (by decide) (fun h1 => ?_) (fun h1 => ?_)
  · refine g_goto F 2438 dL_law_996 (by decide) ?_
    refine g_lv (lv2 := [(4, .int (nI (6 * j))), (0, .ref b), (1, .ref (B + 0)), (2, .ref (B + 709)), (3, .ref (B + 717))]) [2, 3, 4, 5, 6] rfl ?_
    refine g_widen (k := cells + 61) (n := slots + 366) (by show cells + 2 ≤ cells + 61; omega) (by show slots + 12 ≤ slots + 366; omega) ?_
    exact kk _ _ hI
  · refine g_aload_n F dL_law_984 rfl 6 rfl ?_
    refine g_iconst F (v := 0) dL_law_985 (by decide) ?_
    refine g_outld F hL dL_law_986 ?_
    refine g_iload F dL_law_987 0 rfl ?_
    refine g_i2l F dL_law_989 ?_
    refine g_lcmp F dL_law_990 ?_
    refine g_if_eq F 996 dL_law_991 (by decide) (fun h2 => ?_) (fun h2 => absurd (lg_eq0.mpr (ho h1)) h2)
    refine g_goto F 2438 dL_law_996 (by decide) ?_
    refine g_lv (lv2 := [(4, .int (nI (6 * j))), (0, .ref b), (1, .ref (B + 0)), (2, .ref (B + 709)), (3, .ref (B + 717))]) [2, 3, 4, 5, 6] rfl ?_
    refine g_widen (k := cells + 61) (n := slots + 366) (by show cells + 2 ≤ cells + 61; omega) (by show slots + 12 ≤ slots + 366; omega) ?_
    exact kk _ _ hI
set_option maxHeartbeats 2000000 in
set_option maxRecDepth 100000 in
theorem law_c11 (hls : l.stackTraces = false) (F : Fx p room_1 s m args meth c cL_law 7 wsL_law RL D ca (AB B)) (hN : Nc3 s) (hL : va_K D vwCl [(cl, .long)] s) (hX : va_X b L xs s s.heap) (hb : b < s.heap.size) (hbA : ¬ AB B b) (hL9 : L ≤ 3072) (hj : 6 * j + 5 < L) (I : INV M) (hc : cells + 61 ≤ 601024) (hs : slots + 366 ≤ 7293034) (kk : ∀ (o' : Nat → Int64) (M' : Mm), INV M' → G p l e room_1 s m args below meth c Q D ca B (TL cl B o') (AB B) 7 (cells + 61) (slots + 366) M' 2438 [(4, .int (nI (6 * j))), (0, .ref b), (1, .ref (B + 0)), (2, .ref (B + 709)), (3, .ref (B + 717))] []) : G p l e room_1 s m args below meth c Q D ca B (TL cl B o) (AB B) 7 (cells) (slots) M 999 [(4, .int (nI (6 * j))), (0, .ref b), (1, .ref (B + 0)), (2, .ref (B + 709)), (3, .ref (B + 717))] [] := by
  refine g_aload_n F dL_law_999 rfl 2 rfl ?_
  refine g_aload_n F dL_law_1000 rfl 1 rfl ?_
  refine g_iload F dL_law_1001 0 rfl ?_
  refine g_iconst F (v := 1) dL_law_1003 (by decide) ?_
  refine g_iadd F dL_law_1004 ?_
  refine g_sld F hX hb hbA (6 * j + 1) (nI_ad (6 * j) 1) (by omega) hL9 dL_law_1005 ?_
  refine g_aload_n F dL_law_1006 rfl 4 rfl ?_
  refine g_callW F hN hL (S_greyOf l hls I (xs (6 * j + 1))) (vx_cwSW 3 F.1.2.2.2.2 gL_law_L_greyOf rfl rfl rfl (by decide +kernel) ⟨Nat.le_of_ble_eq_true rfl, Nat.le_of_ble_eq_true rfl⟩) rfl rfl rfl (Nat.le_of_ble_eq_true rfl) dL_law_1007 ⟨by show cells + 1 ≤ 601024; omega, by show slots + 6 ≤ 7293034; omega⟩ (fun k9 o9 u9 hu9 => ?_)
  obtain ⟨post9, hM9, hq9⟩ := hu9
  refine g_istore F (lv2 := [(5, _), (4, _), (0, _), (1, _), (2, _), (3, _)]) dL_law_1010 (by decide) rfl ?_
  refine g_aload_n F dL_law_1012 rfl 4 rfl ?_
  refine g_aload_n F dL_law_1013 rfl 2 rfl ?_
  refine g_iload F dL_law_1014 1 rfl ?_
  refine g_iconst F (v := 1) dL_law_1016 (by decide) ?_
  refine g_iadd F dL_law_1017 ?_
  refine g_sld F hX hb hbA (6 * j + 1) (nI_ad (6 * j) 1) (by omega) hL9 dL_law_1018 ?_
  refine g_callV F hM9 (cwV 1 F.1.2.2.2.2 gL_law_X9_greyOf rfl rfl rfl (by decide +kernel) ⟨Nat.le_of_ble_eq_true rfl, Nat.le_of_ble_eq_true rfl⟩) r709 (by decide) rfl rfl rfl rfl (Nat.le_of_ble_eq_true rfl) dL_law_1019 ⟨by show cells + 1 + 0 ≤ 601024; omega, by show slots + 6 + 0 ≤ 7293034; omega⟩ (fun v9 u2 hv9 => ?_)
  obtain ⟨b9, rfl, hcc, ho, hI⟩ := hq9 _ _ _ hv9
  refine g_istore F (lv2 := [(6, _), (5, _), (4, _), (0, _), (1, _), (2, _), (3, _)]) dL_law_1022 (by decide) rfl ?_
  refine g_aload_n F dL_law_1024 rfl 5 rfl ?_
  refine g_callV F (kX9_thrown l) (cwV 0 F.1.2.2.2.2 gL_law_X9_thrown rfl rfl rfl (by decide +kernel) ⟨Nat.le_of_ble_eq_true rfl, Nat.le_of_ble_eq_true rfl⟩) r709 (by decide) rfl rfl rfl rfl (Nat.le_of_ble_eq_true rfl) dL_law_1025 ⟨by show cells + 1 + 0 ≤ 601024; omega, by show slots + 6 + 0 ≤ 7293034; omega⟩ (g_det ?_)
  refine g_iload F dL_law_1028 1 rfl ?_
  refine g_icmp_eq F 1035 dL_law_1030 (by decide) (fun h1 => ?_) (fun h1 => absurd hcc h1)
  refine g_iload F dL_law_1035 1 rfl ?_
  refine g_if_ne F 1052 dL_law_1037 (by decide) (fun h1 => ?_) (fun h1 => ?_)
  · refine g_goto F 2438 dL_law_1052 (by decide) ?_
    refine g_lv (lv2 := [(4, .int (nI (6 * j))), (0, .ref b), (1, .ref (B + 0)), (2, .ref (B + 709)), (3, .ref (B + 717))]) [2, 3, 4, 5, 6] rfl ?_
    refine g_widen (k := cells + 61) (n := slots + 366) (by show cells + 1 ≤ cells + 61; omega) (by show slots + 6 ≤ slots + 366; omega) ?_
    exact kk _ _ hI
  · refine g_aload_n F dL_law_1040 rfl 6 rfl ?_
    refine g_iconst F (v := 0) dL_law_1041 (by decide) ?_
    refine g_outld F hL dL_law_1042 ?_
    refine g_iload F dL_law_1043 0 rfl ?_
    refine g_i2l F dL_law_1045 ?_
    refine g_lcmp F dL_law_1046 ?_
    refine g_if_eq F 1052 dL_law_1047 (by decide) (fun h2 => ?_) (fun h2 => absurd (lg_eq0.mpr (ho h1)) h2)
    refine g_goto F 2438 dL_law_1052 (by decide) ?_
    refine g_lv (lv2 := [(4, .int (nI (6 * j))), (0, .ref b), (1, .ref (B + 0)), (2, .ref (B + 709)), (3, .ref (B + 717))]) [2, 3, 4, 5, 6] rfl ?_
    refine g_widen (k := cells + 61) (n := slots + 366) (by show cells + 1 ≤ cells + 61; omega) (by show slots + 6 ≤ slots + 366; omega) ?_
    exact kk _ _ hI
set_option maxHeartbeats 2000000 in
set_option maxRecDepth 100000 in
theorem law_c12 (hls : l.stackTraces = false) (F : Fx p room_1 s m args meth c cL_law 7 wsL_law RL D ca (AB B)) (hN : Nc3 s) (hL : va_K D vwCl [(cl, .long)] s) (hX : va_X b L xs s s.heap) (hb : b < s.heap.size) (hbA : ¬ AB B b) (hL9 : L ≤ 3072) (hj : 6 * j + 5 < L) (I : INV M) (hc : cells + 61 ≤ 601024) (hs : slots + 366 ≤ 7293034) (kk : ∀ (o' : Nat → Int64) (M' : Mm), INV M' → G p l e room_1 s m args below meth c Q D ca B (TL cl B o') (AB B) 7 (cells + 61) (slots + 366) M' 2438 [(4, .int (nI (6 * j))), (0, .ref b), (1, .ref (B + 0)), (2, .ref (B + 709)), (3, .ref (B + 717))] []) : G p l e room_1 s m args below meth c Q D ca B (TL cl B o) (AB B) 7 (cells) (slots) M 1055 [(4, .int (nI (6 * j))), (0, .ref b), (1, .ref (B + 0)), (2, .ref (B + 709)), (3, .ref (B + 717))] [] := by
  refine g_aload_n F dL_law_1055 rfl 2 rfl ?_
  obtain ⟨post8, hM8, hq8⟩ := S_time l I
  refine g_callV F hM8 (cwV 0 F.1.2.2.2.2 gL_law_X8_time rfl rfl rfl (by decide +kernel) ⟨Nat.le_of_ble_eq_true rfl, Nat.le_of_ble_eq_true rfl⟩) r0 (by decide) rfl rfl rfl rfl (Nat.le_of_ble_eq_true rfl) dL_law_1056 ⟨by show cells + 0 ≤ 601024; omega, by show slots + 0 ≤ 7293034; omega⟩ (fun v8 u8 hv8 => ?_)
  obtain ⟨a8, rfl, post9, hM9, hq9⟩ := hq8 _ _ _ hv8
  refine g_aload_n F dL_law_1059 rfl 3 rfl ?_
  refine g_callV F hM9 (cwV 0 F.1.2.2.2.2 gL_law_X9_time rfl rfl rfl (by decide +kernel) ⟨Nat.le_of_ble_eq_true rfl, Nat.le_of_ble_eq_true rfl⟩) r709 (by decide) rfl rfl rfl rfl (Nat.le_of_ble_eq_true rfl) dL_law_1060 ⟨by show cells + 0 + 0 ≤ 601024; omega, by show slots + 0 + 0 ≤ 7293034; omega⟩ (fun v9 u2 hv9 => ?_)
  obtain ⟨b9, rfl, hab, hI⟩ := hq9 _ _ _ hv9
  refine g_icmp_eq F 2438 dL_law_1063 (by decide) (fun h1 => ?_) (fun h1 => absurd hab h1)
  refine g_widen (k := cells + 61) (n := slots + 366) (by show cells + 0 ≤ cells + 61; omega) (by show slots + 0 ≤ slots + 366; omega) ?_
  exact kk _ _ hI
set_option maxHeartbeats 2000000 in
set_option maxRecDepth 100000 in
theorem law_c13 (hls : l.stackTraces = false) (F : Fx p room_1 s m args meth c cL_law 7 wsL_law RL D ca (AB B)) (hN : Nc3 s) (hL : va_K D vwCl [(cl, .long)] s) (hX : va_X b L xs s s.heap) (hb : b < s.heap.size) (hbA : ¬ AB B b) (hL9 : L ≤ 3072) (hj : 6 * j + 5 < L) (I : INV M) (hc : cells + 61 ≤ 601024) (hs : slots + 366 ≤ 7293034) (kk : ∀ (o' : Nat → Int64) (M' : Mm), INV M' → G p l e room_1 s m args below meth c Q D ca B (TL cl B o') (AB B) 7 (cells + 61) (slots + 366) M' 2438 [(4, .int (nI (6 * j))), (0, .ref b), (1, .ref (B + 0)), (2, .ref (B + 709)), (3, .ref (B + 717))] []) : G p l e room_1 s m args below meth c Q D ca B (TL cl B o) (AB B) 7 (cells) (slots) M 1068 [(4, .int (nI (6 * j))), (0, .ref b), (1, .ref (B + 0)), (2, .ref (B + 709)), (3, .ref (B + 717))] [] := by
  refine g_aload_n F dL_law_1068 rfl 2 rfl ?_
  refine g_aload_n F dL_law_1069 rfl 1 rfl ?_
  refine g_iload F dL_law_1070 0 rfl ?_
  refine g_iconst F (v := 1) dL_law_1072 (by decide) ?_
  refine g_iadd F dL_law_1073 ?_
  refine g_sld F hX hb hbA (6 * j + 1) (nI_ad (6 * j) 1) (by omega) hL9 dL_law_1074 ?_
  refine g_aload_n F dL_law_1075 rfl 4 rfl ?_
  refine g_callW F hN hL (S_watchedBy l hls I (xs (6 * j + 1))) (vx_cwSW 3 F.1.2.2.2.2 gL_law_L_watchedBy rfl rfl rfl (by decide +kernel) ⟨Nat.le_of_ble_eq_true rfl, Nat.le_of_ble_eq_true rfl⟩) rfl rfl rfl (Nat.le_of_ble_eq_true rfl) dL_law_1076 ⟨by show cells + 1 ≤ 601024; omega, by show slots + 6 ≤ 7293034; omega⟩ (fun k9 o9 u9 hu9 => ?_)
  obtain ⟨post9, hM9, hq9⟩ := hu9
  refine g_istore F (lv2 := [(5, _), (4, _), (0, _), (1, _), (2, _), (3, _)]) dL_law_1079 (by decide) rfl ?_
  refine g_aload_n F dL_law_1081 rfl 4 rfl ?_
  refine g_aload_n F dL_law_1082 rfl 2 rfl ?_
  refine g_iload F dL_law_1083 1 rfl ?_
  refine g_iconst F (v := 1) dL_law_1085 (by decide) ?_
  refine g_iadd F dL_law_1086 ?_
  refine g_sld F hX hb hbA (6 * j + 1) (nI_ad (6 * j) 1) (by omega) hL9 dL_law_1087 ?_
  refine g_callV F hM9 (cwV 1 F.1.2.2.2.2 gL_law_X9_watchedBy rfl rfl rfl (by decide +kernel) ⟨Nat.le_of_ble_eq_true rfl, Nat.le_of_ble_eq_true rfl⟩) r709 (by decide) rfl rfl rfl rfl (Nat.le_of_ble_eq_true rfl) dL_law_1088 ⟨by show cells + 1 + 0 ≤ 601024; omega, by show slots + 6 + 0 ≤ 7293034; omega⟩ (fun v9 u2 hv9 => ?_)
  obtain ⟨b9, rfl, hcc, ho, hI⟩ := hq9 _ _ _ hv9
  refine g_istore F (lv2 := [(6, _), (5, _), (4, _), (0, _), (1, _), (2, _), (3, _)]) dL_law_1091 (by decide) rfl ?_
  refine g_aload_n F dL_law_1093 rfl 5 rfl ?_
  refine g_callV F (kX9_thrown l) (cwV 0 F.1.2.2.2.2 gL_law_X9_thrown rfl rfl rfl (by decide +kernel) ⟨Nat.le_of_ble_eq_true rfl, Nat.le_of_ble_eq_true rfl⟩) r709 (by decide) rfl rfl rfl rfl (Nat.le_of_ble_eq_true rfl) dL_law_1094 ⟨by show cells + 1 + 0 ≤ 601024; omega, by show slots + 6 + 0 ≤ 7293034; omega⟩ (g_det ?_)
  refine g_iload F dL_law_1097 1 rfl ?_
  refine g_icmp_eq F 1104 dL_law_1099 (by decide) (fun h1 => ?_) (fun h1 => absurd hcc h1)
  refine g_iload F dL_law_1104 1 rfl ?_
  refine g_if_ne F 1121 dL_law_1106 (by decide) (fun h1 => ?_) (fun h1 => ?_)
  · refine g_goto F 2438 dL_law_1121 (by decide) ?_
    refine g_lv (lv2 := [(4, .int (nI (6 * j))), (0, .ref b), (1, .ref (B + 0)), (2, .ref (B + 709)), (3, .ref (B + 717))]) [2, 3, 4, 5, 6] rfl ?_
    refine g_widen (k := cells + 61) (n := slots + 366) (by show cells + 1 ≤ cells + 61; omega) (by show slots + 6 ≤ slots + 366; omega) ?_
    exact kk _ _ hI
  · refine g_aload_n F dL_law_1109 rfl 6 rfl ?_
    refine g_iconst F (v := 0) dL_law_1110 (by decide) ?_
    refine g_outld F hL dL_law_1111 ?_
    refine g_iload F dL_law_1112 0 rfl ?_
    refine g_i2l F dL_law_1114 ?_
    refine g_lcmp F dL_law_1115 ?_
    refine g_if_eq F 1121 dL_law_1116 (by decide) (fun h2 => ?_) (fun h2 => absurd (lg_eq0.mpr (ho h1)) h2)
    refine g_goto F 2438 dL_law_1121 (by decide) ?_
    refine g_lv (lv2 := [(4, .int (nI (6 * j))), (0, .ref b), (1, .ref (B + 0)), (2, .ref (B + 709)), (3, .ref (B + 717))]) [2, 3, 4, 5, 6] rfl ?_
    refine g_widen (k := cells + 61) (n := slots + 366) (by show cells + 1 ≤ cells + 61; omega) (by show slots + 6 ≤ slots + 366; omega) ?_
    exact kk _ _ hI
set_option maxHeartbeats 2000000 in
set_option maxRecDepth 100000 in
theorem law_c14 (hls : l.stackTraces = false) (F : Fx p room_1 s m args meth c cL_law 7 wsL_law RL D ca (AB B)) (hN : Nc3 s) (hL : va_K D vwCl [(cl, .long)] s) (hX : va_X b L xs s s.heap) (hb : b < s.heap.size) (hbA : ¬ AB B b) (hL9 : L ≤ 3072) (hj : 6 * j + 5 < L) (I : INV M) (hc : cells + 61 ≤ 601024) (hs : slots + 366 ≤ 7293034) (kk : ∀ (o' : Nat → Int64) (M' : Mm), INV M' → G p l e room_1 s m args below meth c Q D ca B (TL cl B o') (AB B) 7 (cells + 61) (slots + 366) M' 2438 [(4, .int (nI (6 * j))), (0, .ref b), (1, .ref (B + 0)), (2, .ref (B + 709)), (3, .ref (B + 717))] []) : G p l e room_1 s m args below meth c Q D ca B (TL cl B o) (AB B) 7 (cells) (slots) M 1124 [(4, .int (nI (6 * j))), (0, .ref b), (1, .ref (B + 0)), (2, .ref (B + 709)), (3, .ref (B + 717))] [] := by
  refine g_aload_n F dL_law_1124 rfl 2 rfl ?_
  refine g_aload_n F dL_law_1125 rfl 1 rfl ?_
  refine g_iload F dL_law_1126 0 rfl ?_
  refine g_iconst F (v := 1) dL_law_1128 (by decide) ?_
  refine g_iadd F dL_law_1129 ?_
  refine g_sld F hX hb hbA (6 * j + 1) (nI_ad (6 * j) 1) (by omega) hL9 dL_law_1130 ?_
  refine g_aload_n F dL_law_1131 rfl 4 rfl ?_
  refine g_callW F hN hL (S_tirednessOf l hls I (xs (6 * j + 1))) (vx_cwSW 3 F.1.2.2.2.2 gL_law_L_tirednessOf rfl rfl rfl (by decide +kernel) ⟨Nat.le_of_ble_eq_true rfl, Nat.le_of_ble_eq_true rfl⟩) rfl rfl rfl (Nat.le_of_ble_eq_true rfl) dL_law_1132 ⟨by show cells + 1 ≤ 601024; omega, by show slots + 6 ≤ 7293034; omega⟩ (fun k9 o9 u9 hu9 => ?_)
  obtain ⟨post9, hM9, hq9⟩ := hu9
  refine g_istore F (lv2 := [(5, _), (4, _), (0, _), (1, _), (2, _), (3, _)]) dL_law_1135 (by decide) rfl ?_
  refine g_aload_n F dL_law_1137 rfl 4 rfl ?_
  refine g_aload_n F dL_law_1138 rfl 2 rfl ?_
  refine g_iload F dL_law_1139 1 rfl ?_
  refine g_iconst F (v := 1) dL_law_1141 (by decide) ?_
  refine g_iadd F dL_law_1142 ?_
  refine g_sld F hX hb hbA (6 * j + 1) (nI_ad (6 * j) 1) (by omega) hL9 dL_law_1143 ?_
  refine g_callV F hM9 (cwV 1 F.1.2.2.2.2 gL_law_X9_tirednessOf rfl rfl rfl (by decide +kernel) ⟨Nat.le_of_ble_eq_true rfl, Nat.le_of_ble_eq_true rfl⟩) r709 (by decide) rfl rfl rfl rfl (Nat.le_of_ble_eq_true rfl) dL_law_1144 ⟨by show cells + 1 + 0 ≤ 601024; omega, by show slots + 6 + 0 ≤ 7293034; omega⟩ (fun v9 u2 hv9 => ?_)
  obtain ⟨b9, rfl, hcc, ho, hI⟩ := hq9 _ _ _ hv9
  refine g_istore F (lv2 := [(6, _), (5, _), (4, _), (0, _), (1, _), (2, _), (3, _)]) dL_law_1147 (by decide) rfl ?_
  refine g_aload_n F dL_law_1149 rfl 5 rfl ?_
  refine g_callV F (kX9_thrown l) (cwV 0 F.1.2.2.2.2 gL_law_X9_thrown rfl rfl rfl (by decide +kernel) ⟨Nat.le_of_ble_eq_true rfl, Nat.le_of_ble_eq_true rfl⟩) r709 (by decide) rfl rfl rfl rfl (Nat.le_of_ble_eq_true rfl) dL_law_1150 ⟨by show cells + 1 + 0 ≤ 601024; omega, by show slots + 6 + 0 ≤ 7293034; omega⟩ (g_det ?_)
  refine g_iload F dL_law_1153 1 rfl ?_
  refine g_icmp_eq F 1160 dL_law_1155 (by decide) (fun h1 => ?_) (fun h1 => absurd hcc h1)
  refine g_iload F dL_law_1160 1 rfl ?_
  refine g_if_ne F 1177 dL_law_1162 (by decide) (fun h1 => ?_) (fun h1 => ?_)
  · refine g_goto F 2438 dL_law_1177 (by decide) ?_
    refine g_lv (lv2 := [(4, .int (nI (6 * j))), (0, .ref b), (1, .ref (B + 0)), (2, .ref (B + 709)), (3, .ref (B + 717))]) [2, 3, 4, 5, 6] rfl ?_
    refine g_widen (k := cells + 61) (n := slots + 366) (by show cells + 1 ≤ cells + 61; omega) (by show slots + 6 ≤ slots + 366; omega) ?_
    exact kk _ _ hI
  · refine g_aload_n F dL_law_1165 rfl 6 rfl ?_
    refine g_iconst F (v := 0) dL_law_1166 (by decide) ?_
    refine g_outld F hL dL_law_1167 ?_
    refine g_iload F dL_law_1168 0 rfl ?_
    refine g_i2l F dL_law_1170 ?_
    refine g_lcmp F dL_law_1171 ?_
    refine g_if_eq F 1177 dL_law_1172 (by decide) (fun h2 => ?_) (fun h2 => absurd (lg_eq0.mpr (ho h1)) h2)
    refine g_goto F 2438 dL_law_1177 (by decide) ?_
    refine g_lv (lv2 := [(4, .int (nI (6 * j))), (0, .ref b), (1, .ref (B + 0)), (2, .ref (B + 709)), (3, .ref (B + 717))]) [2, 3, 4, 5, 6] rfl ?_
    refine g_widen (k := cells + 61) (n := slots + 366) (by show cells + 1 ≤ cells + 61; omega) (by show slots + 6 ≤ slots + 366; omega) ?_
    exact kk _ _ hI
set_option maxHeartbeats 2000000 in
set_option maxRecDepth 100000 in
theorem law_c15 (hls : l.stackTraces = false) (F : Fx p room_1 s m args meth c cL_law 7 wsL_law RL D ca (AB B)) (hN : Nc3 s) (hL : va_K D vwCl [(cl, .long)] s) (hX : va_X b L xs s s.heap) (hb : b < s.heap.size) (hbA : ¬ AB B b) (hL9 : L ≤ 3072) (hj : 6 * j + 5 < L) (I : INV M) (hc : cells + 61 ≤ 601024) (hs : slots + 366 ≤ 7293034) (kk : ∀ (o' : Nat → Int64) (M' : Mm), INV M' → G p l e room_1 s m args below meth c Q D ca B (TL cl B o') (AB B) 7 (cells + 61) (slots + 366) M' 2438 [(4, .int (nI (6 * j))), (0, .ref b), (1, .ref (B + 0)), (2, .ref (B + 709)), (3, .ref (B + 717))] []) : G p l e room_1 s m args below meth c Q D ca B (TL cl B o) (AB B) 7 (cells) (slots) M 1180 [(4, .int (nI (6 * j))), (0, .ref b), (1, .ref (B + 0)), (2, .ref (B + 709)), (3, .ref (B + 717))] [] := by
  refine g_aload_n F dL_law_1180 rfl 2 rfl ?_
  refine g_aload_n F dL_law_1181 rfl 1 rfl ?_
  refine g_iload F dL_law_1182 0 rfl ?_
  refine g_iconst F (v := 1) dL_law_1184 (by decide) ?_
  refine g_iadd F dL_law_1185 ?_
  refine g_sld F hX hb hbA (6 * j + 1) (nI_ad (6 * j) 1) (by omega) hL9 dL_law_1186 ?_
  refine g_aload_n F dL_law_1187 rfl 1 rfl ?_
  refine g_iload F dL_law_1188 0 rfl ?_
  refine g_iconst F (v := 2) dL_law_1190 (by decide) ?_
  refine g_iadd F dL_law_1191 ?_
  refine g_sld F hX hb hbA (6 * j + 2) (nI_ad (6 * j) 2) (by omega) hL9 dL_law_1192 ?_
  refine g_aload_n F dL_law_1193 rfl 4 rfl ?_
  refine g_callW F hN hL (S_wouldRead l hls I (xs (6 * j + 1)) (xs (6 * j + 2))) (vx_cwSW 4 F.1.2.2.2.2 gL_law_L_wouldRead rfl rfl rfl (by decide +kernel) ⟨Nat.le_of_ble_eq_true rfl, Nat.le_of_ble_eq_true rfl⟩) rfl rfl rfl (Nat.le_of_ble_eq_true rfl) dL_law_1194 ⟨by show cells + 2 ≤ 601024; omega, by show slots + 12 ≤ 7293034; omega⟩ (fun k9 o9 u9 hu9 => ?_)
  obtain ⟨post9, hM9, hq9⟩ := hu9
  refine g_istore F (lv2 := [(5, _), (4, _), (0, _), (1, _), (2, _), (3, _)]) dL_law_1197 (by decide) rfl ?_
  refine g_aload_n F dL_law_1199 rfl 4 rfl ?_
  refine g_aload_n F dL_law_1200 rfl 2 rfl ?_
  refine g_iload F dL_law_1201 1 rfl ?_
  refine g_iconst F (v := 1) dL_law_1203 (by decide) ?_
  refine g_iadd F dL_law_1204 ?_
  refine g_sld F hX hb hbA (6 * j + 1) (nI_ad (6 * j) 1) (by omega) hL9 dL_law_1205 ?_
  refine g_aload_n F dL_law_1206 rfl 2 rfl ?_
  refine g_iload F dL_law_1207 1 rfl ?_
  refine g_iconst F (v := 2) dL_law_1209 (by decide) ?_
  refine g_iadd F dL_law_1210 ?_
  refine g_sld F hX hb hbA (6 * j + 2) (nI_ad (6 * j) 2) (by omega) hL9 dL_law_1211 ?_
  refine g_callV F hM9 (cwV 2 F.1.2.2.2.2 gL_law_X9_wouldRead rfl rfl rfl (by decide +kernel) ⟨Nat.le_of_ble_eq_true rfl, Nat.le_of_ble_eq_true rfl⟩) r709 (by decide) rfl rfl rfl rfl (Nat.le_of_ble_eq_true rfl) dL_law_1212 ⟨by show cells + 2 + 0 ≤ 601024; omega, by show slots + 12 + 0 ≤ 7293034; omega⟩ (fun v9 u2 hv9 => ?_)
  obtain ⟨b9, rfl, hcc, ho, hI⟩ := hq9 _ _ _ hv9
  refine g_istore F (lv2 := [(6, _), (5, _), (4, _), (0, _), (1, _), (2, _), (3, _)]) dL_law_1215 (by decide) rfl ?_
  refine g_aload_n F dL_law_1217 rfl 5 rfl ?_
  refine g_callV F (kX9_thrown l) (cwV 0 F.1.2.2.2.2 gL_law_X9_thrown rfl rfl rfl (by decide +kernel) ⟨Nat.le_of_ble_eq_true rfl, Nat.le_of_ble_eq_true rfl⟩) r709 (by decide) rfl rfl rfl rfl (Nat.le_of_ble_eq_true rfl) dL_law_1218 ⟨by show cells + 2 + 0 ≤ 601024; omega, by show slots + 12 + 0 ≤ 7293034; omega⟩ (g_det ?_)
  refine g_iload F dL_law_1221 1 rfl ?_
  refine g_icmp_eq F 1228 dL_law_1223 (by decide) (fun h1 => ?_) (fun h1 => absurd hcc h1)
  refine g_iload F dL_law_1228 1 rfl ?_
  refine g_if_ne F 1245 dL_law_1230 (by decide) (fun h1 => ?_) (fun h1 => ?_)
  · refine g_goto F 2438 dL_law_1245 (by decide) ?_
    refine g_lv (lv2 := [(4, .int (nI (6 * j))), (0, .ref b), (1, .ref (B + 0)), (2, .ref (B + 709)), (3, .ref (B + 717))]) [2, 3, 4, 5, 6] rfl ?_
    refine g_widen (k := cells + 61) (n := slots + 366) (by show cells + 2 ≤ cells + 61; omega) (by show slots + 12 ≤ slots + 366; omega) ?_
    exact kk _ _ hI
  · refine g_aload_n F dL_law_1233 rfl 6 rfl ?_
    refine g_iconst F (v := 0) dL_law_1234 (by decide) ?_
    refine g_outld F hL dL_law_1235 ?_
    refine g_iload F dL_law_1236 0 rfl ?_
    refine g_i2l F dL_law_1238 ?_
    refine g_lcmp F dL_law_1239 ?_
    refine g_if_eq F 1245 dL_law_1240 (by decide) (fun h2 => ?_) (fun h2 => absurd (lg_eq0.mpr (ho h1)) h2)
    refine g_goto F 2438 dL_law_1245 (by decide) ?_
    refine g_lv (lv2 := [(4, .int (nI (6 * j))), (0, .ref b), (1, .ref (B + 0)), (2, .ref (B + 709)), (3, .ref (B + 717))]) [2, 3, 4, 5, 6] rfl ?_
    refine g_widen (k := cells + 61) (n := slots + 366) (by show cells + 2 ≤ cells + 61; omega) (by show slots + 12 ≤ slots + 366; omega) ?_
    exact kk _ _ hI
set_option maxHeartbeats 2000000 in
set_option maxRecDepth 100000 in
theorem law_c16 (hls : l.stackTraces = false) (F : Fx p room_1 s m args meth c cL_law 7 wsL_law RL D ca (AB B)) (hN : Nc3 s) (hL : va_K D vwCl [(cl, .long)] s) (hX : va_X b L xs s s.heap) (hb : b < s.heap.size) (hbA : ¬ AB B b) (hL9 : L ≤ 3072) (hj : 6 * j + 5 < L) (I : INV M) (hc : cells + 61 ≤ 601024) (hs : slots + 366 ≤ 7293034) (kk : ∀ (o' : Nat → Int64) (M' : Mm), INV M' → G p l e room_1 s m args below meth c Q D ca B (TL cl B o') (AB B) 7 (cells + 61) (slots + 366) M' 2438 [(4, .int (nI (6 * j))), (0, .ref b), (1, .ref (B + 0)), (2, .ref (B + 709)), (3, .ref (B + 717))] []) : G p l e room_1 s m args below meth c Q D ca B (TL cl B o) (AB B) 7 (cells) (slots) M 1248 [(4, .int (nI (6 * j))), (0, .ref b), (1, .ref (B + 0)), (2, .ref (B + 709)), (3, .ref (B + 717))] [] := by
  refine g_aload_n F dL_law_1248 rfl 2 rfl ?_
  refine g_aload_n F dL_law_1249 rfl 1 rfl ?_
  refine g_iload F dL_law_1250 0 rfl ?_
  refine g_iconst F (v := 1) dL_law_1252 (by decide) ?_
  refine g_iadd F dL_law_1253 ?_
  refine g_sld F hX hb hbA (6 * j + 1) (nI_ad (6 * j) 1) (by omega) hL9 dL_law_1254 ?_
  refine g_aload_n F dL_law_1255 rfl 1 rfl ?_
  refine g_iload F dL_law_1256 0 rfl ?_
  refine g_iconst F (v := 2) dL_law_1258 (by decide) ?_
  refine g_iadd F dL_law_1259 ?_
  refine g_sld F hX hb hbA (6 * j + 2) (nI_ad (6 * j) 2) (by omega) hL9 dL_law_1260 ?_
  refine g_aload_n F dL_law_1261 rfl 4 rfl ?_
  refine g_callW F hN hL (S_readingOf l hls I (xs (6 * j + 1)) (xs (6 * j + 2))) (vx_cwSW 4 F.1.2.2.2.2 gL_law_L_readingOf rfl rfl rfl (by decide +kernel) ⟨Nat.le_of_ble_eq_true rfl, Nat.le_of_ble_eq_true rfl⟩) rfl rfl rfl (Nat.le_of_ble_eq_true rfl) dL_law_1262 ⟨by show cells + 2 ≤ 601024; omega, by show slots + 12 ≤ 7293034; omega⟩ (fun k9 o9 u9 hu9 => ?_)
  obtain ⟨post9, hM9, hq9⟩ := hu9
  refine g_istore F (lv2 := [(5, _), (4, _), (0, _), (1, _), (2, _), (3, _)]) dL_law_1265 (by decide) rfl ?_
  refine g_aload_n F dL_law_1267 rfl 4 rfl ?_
  refine g_aload_n F dL_law_1268 rfl 2 rfl ?_
  refine g_iload F dL_law_1269 1 rfl ?_
  refine g_iconst F (v := 1) dL_law_1271 (by decide) ?_
  refine g_iadd F dL_law_1272 ?_
  refine g_sld F hX hb hbA (6 * j + 1) (nI_ad (6 * j) 1) (by omega) hL9 dL_law_1273 ?_
  refine g_aload_n F dL_law_1274 rfl 2 rfl ?_
  refine g_iload F dL_law_1275 1 rfl ?_
  refine g_iconst F (v := 2) dL_law_1277 (by decide) ?_
  refine g_iadd F dL_law_1278 ?_
  refine g_sld F hX hb hbA (6 * j + 2) (nI_ad (6 * j) 2) (by omega) hL9 dL_law_1279 ?_
  refine g_callV F hM9 (cwV 2 F.1.2.2.2.2 gL_law_X9_readingOf rfl rfl rfl (by decide +kernel) ⟨Nat.le_of_ble_eq_true rfl, Nat.le_of_ble_eq_true rfl⟩) r709 (by decide) rfl rfl rfl rfl (Nat.le_of_ble_eq_true rfl) dL_law_1280 ⟨by show cells + 2 + 0 ≤ 601024; omega, by show slots + 12 + 0 ≤ 7293034; omega⟩ (fun v9 u2 hv9 => ?_)
  obtain ⟨b9, rfl, hcc, ho, hI⟩ := hq9 _ _ _ hv9
  refine g_istore F (lv2 := [(6, _), (5, _), (4, _), (0, _), (1, _), (2, _), (3, _)]) dL_law_1283 (by decide) rfl ?_
  refine g_aload_n F dL_law_1285 rfl 5 rfl ?_
  refine g_callV F (kX9_thrown l) (cwV 0 F.1.2.2.2.2 gL_law_X9_thrown rfl rfl rfl (by decide +kernel) ⟨Nat.le_of_ble_eq_true rfl, Nat.le_of_ble_eq_true rfl⟩) r709 (by decide) rfl rfl rfl rfl (Nat.le_of_ble_eq_true rfl) dL_law_1286 ⟨by show cells + 2 + 0 ≤ 601024; omega, by show slots + 12 + 0 ≤ 7293034; omega⟩ (g_det ?_)
  refine g_iload F dL_law_1289 1 rfl ?_
  refine g_icmp_eq F 1296 dL_law_1291 (by decide) (fun h1 => ?_) (fun h1 => absurd hcc h1)
  refine g_iload F dL_law_1296 1 rfl ?_
  refine g_if_ne F 1313 dL_law_1298 (by decide) (fun h1 => ?_) (fun h1 => ?_)
  · refine g_goto F 2438 dL_law_1313 (by decide) ?_
    refine g_lv (lv2 := [(4, .int (nI (6 * j))), (0, .ref b), (1, .ref (B + 0)), (2, .ref (B + 709)), (3, .ref (B + 717))]) [2, 3, 4, 5, 6] rfl ?_
    refine g_widen (k := cells + 61) (n := slots + 366) (by show cells + 2 ≤ cells + 61; omega) (by show slots + 12 ≤ slots + 366; omega) ?_
    exact kk _ _ hI
  · refine g_aload_n F dL_law_1301 rfl 6 rfl ?_
    refine g_iconst F (v := 0) dL_law_1302 (by decide) ?_
    refine g_outld F hL dL_law_1303 ?_
    refine g_iload F dL_law_1304 0 rfl ?_
    refine g_i2l F dL_law_1306 ?_
    refine g_lcmp F dL_law_1307 ?_
    refine g_if_eq F 1313 dL_law_1308 (by decide) (fun h2 => ?_) (fun h2 => absurd (lg_eq0.mpr (ho h1)) h2)
    refine g_goto F 2438 dL_law_1313 (by decide) ?_
    refine g_lv (lv2 := [(4, .int (nI (6 * j))), (0, .ref b), (1, .ref (B + 0)), (2, .ref (B + 709)), (3, .ref (B + 717))]) [2, 3, 4, 5, 6] rfl ?_
    refine g_widen (k := cells + 61) (n := slots + 366) (by show cells + 2 ≤ cells + 61; omega) (by show slots + 12 ≤ slots + 366; omega) ?_
    exact kk _ _ hI
set_option maxHeartbeats 2000000 in
set_option maxRecDepth 100000 in
theorem law_c17 (hls : l.stackTraces = false) (F : Fx p room_1 s m args meth c cL_law 7 wsL_law RL D ca (AB B)) (hN : Nc3 s) (hL : va_K D vwCl [(cl, .long)] s) (hX : va_X b L xs s s.heap) (hb : b < s.heap.size) (hbA : ¬ AB B b) (hL9 : L ≤ 3072) (hj : 6 * j + 5 < L) (I : INV M) (hc : cells + 61 ≤ 601024) (hs : slots + 366 ≤ 7293034) (kk : ∀ (o' : Nat → Int64) (M' : Mm), INV M' → G p l e room_1 s m args below meth c Q D ca B (TL cl B o') (AB B) 7 (cells + 61) (slots + 366) M' 2438 [(4, .int (nI (6 * j))), (0, .ref b), (1, .ref (B + 0)), (2, .ref (B + 709)), (3, .ref (B + 717))] []) : G p l e room_1 s m args below meth c Q D ca B (TL cl B o) (AB B) 7 (cells) (slots) M 1316 [(4, .int (nI (6 * j))), (0, .ref b), (1, .ref (B + 0)), (2, .ref (B + 709)), (3, .ref (B + 717))] [] := by
  refine g_aload_n F dL_law_1316 rfl 2 rfl ?_
  refine g_aload_n F dL_law_1317 rfl 1 rfl ?_
  refine g_iload F dL_law_1318 0 rfl ?_
  refine g_iconst F (v := 1) dL_law_1320 (by decide) ?_
  refine g_iadd F dL_law_1321 ?_
  refine g_sld F hX hb hbA (6 * j + 1) (nI_ad (6 * j) 1) (by omega) hL9 dL_law_1322 ?_
  refine g_aload_n F dL_law_1323 rfl 1 rfl ?_
  refine g_iload F dL_law_1324 0 rfl ?_
  refine g_iconst F (v := 2) dL_law_1326 (by decide) ?_
  refine g_iadd F dL_law_1327 ?_
  refine g_sld F hX hb hbA (6 * j + 2) (nI_ad (6 * j) 2) (by omega) hL9 dL_law_1328 ?_
  refine g_aload_n F dL_law_1329 rfl 4 rfl ?_
  refine g_callW F hN hL (S_readingsFrom l hls I (xs (6 * j + 1)) (xs (6 * j + 2))) (vx_cwSW 4 F.1.2.2.2.2 gL_law_L_readingsFrom rfl rfl rfl (by decide +kernel) ⟨Nat.le_of_ble_eq_true rfl, Nat.le_of_ble_eq_true rfl⟩) rfl rfl rfl (Nat.le_of_ble_eq_true rfl) dL_law_1330 ⟨by show cells + 2 ≤ 601024; omega, by show slots + 12 ≤ 7293034; omega⟩ (fun k9 o9 u9 hu9 => ?_)
  obtain ⟨post9, hM9, hq9⟩ := hu9
  refine g_istore F (lv2 := [(5, _), (4, _), (0, _), (1, _), (2, _), (3, _)]) dL_law_1333 (by decide) rfl ?_
  refine g_aload_n F dL_law_1335 rfl 4 rfl ?_
  refine g_aload_n F dL_law_1336 rfl 2 rfl ?_
  refine g_iload F dL_law_1337 1 rfl ?_
  refine g_iconst F (v := 1) dL_law_1339 (by decide) ?_
  refine g_iadd F dL_law_1340 ?_
  refine g_sld F hX hb hbA (6 * j + 1) (nI_ad (6 * j) 1) (by omega) hL9 dL_law_1341 ?_
  refine g_aload_n F dL_law_1342 rfl 2 rfl ?_
  refine g_iload F dL_law_1343 1 rfl ?_
  refine g_iconst F (v := 2) dL_law_1345 (by decide) ?_
  refine g_iadd F dL_law_1346 ?_
  refine g_sld F hX hb hbA (6 * j + 2) (nI_ad (6 * j) 2) (by omega) hL9 dL_law_1347 ?_
  refine g_callV F hM9 (cwV 2 F.1.2.2.2.2 gL_law_X9_readingsFrom rfl rfl rfl (by decide +kernel) ⟨Nat.le_of_ble_eq_true rfl, Nat.le_of_ble_eq_true rfl⟩) r709 (by decide) rfl rfl rfl rfl (Nat.le_of_ble_eq_true rfl) dL_law_1348 ⟨by show cells + 2 + 0 ≤ 601024; omega, by show slots + 12 + 0 ≤ 7293034; omega⟩ (fun v9 u2 hv9 => ?_)
  obtain ⟨b9, rfl, hcc, ho, hI⟩ := hq9 _ _ _ hv9
  refine g_istore F (lv2 := [(6, _), (5, _), (4, _), (0, _), (1, _), (2, _), (3, _)]) dL_law_1351 (by decide) rfl ?_
  refine g_aload_n F dL_law_1353 rfl 5 rfl ?_
  refine g_callV F (kX9_thrown l) (cwV 0 F.1.2.2.2.2 gL_law_X9_thrown rfl rfl rfl (by decide +kernel) ⟨Nat.le_of_ble_eq_true rfl, Nat.le_of_ble_eq_true rfl⟩) r709 (by decide) rfl rfl rfl rfl (Nat.le_of_ble_eq_true rfl) dL_law_1354 ⟨by show cells + 2 + 0 ≤ 601024; omega, by show slots + 12 + 0 ≤ 7293034; omega⟩ (g_det ?_)
  refine g_iload F dL_law_1357 1 rfl ?_
  refine g_icmp_eq F 1364 dL_law_1359 (by decide) (fun h1 => ?_) (fun h1 => absurd hcc h1)
  refine g_iload F dL_law_1364 1 rfl ?_
  refine g_if_ne F 1381 dL_law_1366 (by decide) (fun h1 => ?_) (fun h1 => ?_)
  · refine g_goto F 2438 dL_law_1381 (by decide) ?_
    refine g_lv (lv2 := [(4, .int (nI (6 * j))), (0, .ref b), (1, .ref (B + 0)), (2, .ref (B + 709)), (3, .ref (B + 717))]) [2, 3, 4, 5, 6] rfl ?_
    refine g_widen (k := cells + 61) (n := slots + 366) (by show cells + 2 ≤ cells + 61; omega) (by show slots + 12 ≤ slots + 366; omega) ?_
    exact kk _ _ hI
  · refine g_aload_n F dL_law_1369 rfl 6 rfl ?_
    refine g_iconst F (v := 0) dL_law_1370 (by decide) ?_
    refine g_outld F hL dL_law_1371 ?_
    refine g_iload F dL_law_1372 0 rfl ?_
    refine g_i2l F dL_law_1374 ?_
    refine g_lcmp F dL_law_1375 ?_
    refine g_if_eq F 1381 dL_law_1376 (by decide) (fun h2 => ?_) (fun h2 => absurd (lg_eq0.mpr (ho h1)) h2)
    refine g_goto F 2438 dL_law_1381 (by decide) ?_
    refine g_lv (lv2 := [(4, .int (nI (6 * j))), (0, .ref b), (1, .ref (B + 0)), (2, .ref (B + 709)), (3, .ref (B + 717))]) [2, 3, 4, 5, 6] rfl ?_
    refine g_widen (k := cells + 61) (n := slots + 366) (by show cells + 2 ≤ cells + 61; omega) (by show slots + 12 ≤ slots + 366; omega) ?_
    exact kk _ _ hI
set_option maxHeartbeats 2000000 in
set_option maxRecDepth 100000 in
theorem law_c18 (hls : l.stackTraces = false) (F : Fx p room_1 s m args meth c cL_law 7 wsL_law RL D ca (AB B)) (hN : Nc3 s) (hL : va_K D vwCl [(cl, .long)] s) (hX : va_X b L xs s s.heap) (hb : b < s.heap.size) (hbA : ¬ AB B b) (hL9 : L ≤ 3072) (hj : 6 * j + 5 < L) (I : INV M) (hc : cells + 61 ≤ 601024) (hs : slots + 366 ≤ 7293034) (kk : ∀ (o' : Nat → Int64) (M' : Mm), INV M' → G p l e room_1 s m args below meth c Q D ca B (TL cl B o') (AB B) 7 (cells + 61) (slots + 366) M' 2438 [(4, .int (nI (6 * j))), (0, .ref b), (1, .ref (B + 0)), (2, .ref (B + 709)), (3, .ref (B + 717))] []) : G p l e room_1 s m args below meth c Q D ca B (TL cl B o) (AB B) 7 (cells) (slots) M 1384 [(4, .int (nI (6 * j))), (0, .ref b), (1, .ref (B + 0)), (2, .ref (B + 709)), (3, .ref (B + 717))] [] := by
  refine g_aload_n F dL_law_1384 rfl 2 rfl ?_
  refine g_aload_n F dL_law_1385 rfl 1 rfl ?_
  refine g_iload F dL_law_1386 0 rfl ?_
  refine g_iconst F (v := 1) dL_law_1388 (by decide) ?_
  refine g_iadd F dL_law_1389 ?_
  refine g_sld F hX hb hbA (6 * j + 1) (nI_ad (6 * j) 1) (by omega) hL9 dL_law_1390 ?_
  refine g_aload_n F dL_law_1391 rfl 1 rfl ?_
  refine g_iload F dL_law_1392 0 rfl ?_
  refine g_iconst F (v := 2) dL_law_1394 (by decide) ?_
  refine g_iadd F dL_law_1395 ?_
  refine g_sld F hX hb hbA (6 * j + 2) (nI_ad (6 * j) 2) (by omega) hL9 dL_law_1396 ?_
  refine g_aload_n F dL_law_1397 rfl 1 rfl ?_
  refine g_iload F dL_law_1398 0 rfl ?_
  refine g_iconst F (v := 3) dL_law_1400 (by decide) ?_
  refine g_iadd F dL_law_1401 ?_
  refine g_sld F hX hb hbA (6 * j + 3) (nI_ad (6 * j) 3) (by omega) hL9 dL_law_1402 ?_
  refine g_bool F 1410 1411 dL_law_1403 (by decide) dL_law_1406 dL_law_1407 (by decide) dL_law_1410 rfl ?_
  refine g_aload_n F dL_law_1411 rfl 4 rfl ?_
  refine g_callW F hN hL (S_longestRow l hls I (xs (6 * j + 1)) (xs (6 * j + 2)) (b2i (¬ (xs (6 * j + 3)) = 0))) (vx_cwSW 5 F.1.2.2.2.2 gL_law_L_longestRow rfl rfl rfl (by decide +kernel) ⟨Nat.le_of_ble_eq_true rfl, Nat.le_of_ble_eq_true rfl⟩) rfl rfl rfl (Nat.le_of_ble_eq_true rfl) dL_law_1412 ⟨by show cells + 2 ≤ 601024; omega, by show slots + 12 ≤ 7293034; omega⟩ (fun k9 o9 u9 hu9 => ?_)
  obtain ⟨post9, hM9, hq9⟩ := hu9
  refine g_istore F (lv2 := [(5, _), (4, _), (0, _), (1, _), (2, _), (3, _)]) dL_law_1415 (by decide) rfl ?_
  refine g_aload_n F dL_law_1417 rfl 4 rfl ?_
  refine g_aload_n F dL_law_1418 rfl 2 rfl ?_
  refine g_iload F dL_law_1419 1 rfl ?_
  refine g_iconst F (v := 1) dL_law_1421 (by decide) ?_
  refine g_iadd F dL_law_1422 ?_
  refine g_sld F hX hb hbA (6 * j + 1) (nI_ad (6 * j) 1) (by omega) hL9 dL_law_1423 ?_
  refine g_aload_n F dL_law_1424 rfl 2 rfl ?_
  refine g_iload F dL_law_1425 1 rfl ?_
  refine g_iconst F (v := 2) dL_law_1427 (by decide) ?_
  refine g_iadd F dL_law_1428 ?_
  refine g_sld F hX hb hbA (6 * j + 2) (nI_ad (6 * j) 2) (by omega) hL9 dL_law_1429 ?_
  refine g_aload_n F dL_law_1430 rfl 2 rfl ?_
  refine g_iload F dL_law_1431 1 rfl ?_
  refine g_iconst F (v := 3) dL_law_1433 (by decide) ?_
  refine g_iadd F dL_law_1434 ?_
  refine g_sld F hX hb hbA (6 * j + 3) (nI_ad (6 * j) 3) (by omega) hL9 dL_law_1435 ?_
  refine g_bool F 1443 1444 dL_law_1436 (by decide) dL_law_1439 dL_law_1440 (by decide) dL_law_1443 rfl ?_
  refine g_callV F hM9 (cwV 3 F.1.2.2.2.2 gL_law_X9_longestRow rfl rfl rfl (by decide +kernel) ⟨Nat.le_of_ble_eq_true rfl, Nat.le_of_ble_eq_true rfl⟩) r709 (by decide) rfl rfl rfl rfl (Nat.le_of_ble_eq_true rfl) dL_law_1444 ⟨by show cells + 2 + 0 ≤ 601024; omega, by show slots + 12 + 0 ≤ 7293034; omega⟩ (fun v9 u2 hv9 => ?_)
  obtain ⟨b9, rfl, hcc, ho, hI⟩ := hq9 _ _ _ hv9
  refine g_istore F (lv2 := [(6, _), (5, _), (4, _), (0, _), (1, _), (2, _), (3, _)]) dL_law_1447 (by decide) rfl ?_
  refine g_aload_n F dL_law_1449 rfl 5 rfl ?_
  refine g_callV F (kX9_thrown l) (cwV 0 F.1.2.2.2.2 gL_law_X9_thrown rfl rfl rfl (by decide +kernel) ⟨Nat.le_of_ble_eq_true rfl, Nat.le_of_ble_eq_true rfl⟩) r709 (by decide) rfl rfl rfl rfl (Nat.le_of_ble_eq_true rfl) dL_law_1450 ⟨by show cells + 2 + 0 ≤ 601024; omega, by show slots + 12 + 0 ≤ 7293034; omega⟩ (g_det ?_)
  refine g_iload F dL_law_1453 1 rfl ?_
  refine g_icmp_eq F 1460 dL_law_1455 (by decide) (fun h1 => ?_) (fun h1 => absurd hcc h1)
  refine g_iload F dL_law_1460 1 rfl ?_
  refine g_if_ne F 1477 dL_law_1462 (by decide) (fun h1 => ?_) (fun h1 => ?_)
  · refine g_goto F 2438 dL_law_1477 (by decide) ?_
    refine g_lv (lv2 := [(4, .int (nI (6 * j))), (0, .ref b), (1, .ref (B + 0)), (2, .ref (B + 709)), (3, .ref (B + 717))]) [2, 3, 4, 5, 6] rfl ?_
    refine g_widen (k := cells + 61) (n := slots + 366) (by show cells + 2 ≤ cells + 61; omega) (by show slots + 12 ≤ slots + 366; omega) ?_
    exact kk _ _ hI
  · refine g_aload_n F dL_law_1465 rfl 6 rfl ?_
    refine g_iconst F (v := 0) dL_law_1466 (by decide) ?_
    refine g_outld F hL dL_law_1467 ?_
    refine g_iload F dL_law_1468 0 rfl ?_
    refine g_i2l F dL_law_1470 ?_
    refine g_lcmp F dL_law_1471 ?_
    refine g_if_eq F 1477 dL_law_1472 (by decide) (fun h2 => ?_) (fun h2 => absurd (lg_eq0.mpr (ho h1)) h2)
    refine g_goto F 2438 dL_law_1477 (by decide) ?_
    refine g_lv (lv2 := [(4, .int (nI (6 * j))), (0, .ref b), (1, .ref (B + 0)), (2, .ref (B + 709)), (3, .ref (B + 717))]) [2, 3, 4, 5, 6] rfl ?_
    refine g_widen (k := cells + 61) (n := slots + 366) (by show cells + 2 ≤ cells + 61; omega) (by show slots + 12 ≤ slots + 366; omega) ?_
    exact kk _ _ hI
set_option maxHeartbeats 2000000 in
set_option maxRecDepth 100000 in
theorem law_c19 (hls : l.stackTraces = false) (F : Fx p room_1 s m args meth c cL_law 7 wsL_law RL D ca (AB B)) (hN : Nc3 s) (hL : va_K D vwCl [(cl, .long)] s) (hX : va_X b L xs s s.heap) (hb : b < s.heap.size) (hbA : ¬ AB B b) (hL9 : L ≤ 3072) (hj : 6 * j + 5 < L) (I : INV M) (hc : cells + 61 ≤ 601024) (hs : slots + 366 ≤ 7293034) (kk : ∀ (o' : Nat → Int64) (M' : Mm), INV M' → G p l e room_1 s m args below meth c Q D ca B (TL cl B o') (AB B) 7 (cells + 61) (slots + 366) M' 2438 [(4, .int (nI (6 * j))), (0, .ref b), (1, .ref (B + 0)), (2, .ref (B + 709)), (3, .ref (B + 717))] []) : G p l e room_1 s m args below meth c Q D ca B (TL cl B o) (AB B) 7 (cells) (slots) M 1480 [(4, .int (nI (6 * j))), (0, .ref b), (1, .ref (B + 0)), (2, .ref (B + 709)), (3, .ref (B + 717))] [] := by
  refine g_aload_n F dL_law_1480 rfl 2 rfl ?_
  refine g_aload_n F dL_law_1481 rfl 1 rfl ?_
  refine g_iload F dL_law_1482 0 rfl ?_
  refine g_iconst F (v := 1) dL_law_1484 (by decide) ?_
  refine g_iadd F dL_law_1485 ?_
  refine g_sld F hX hb hbA (6 * j + 1) (nI_ad (6 * j) 1) (by omega) hL9 dL_law_1486 ?_
  refine g_aload_n F dL_law_1487 rfl 4 rfl ?_
  refine g_callW F hN hL (S_errorsOf l hls I (xs (6 * j + 1))) (vx_cwSW 3 F.1.2.2.2.2 gL_law_L_errorsOf rfl rfl rfl (by decide +kernel) ⟨Nat.le_of_ble_eq_true rfl, Nat.le_of_ble_eq_true rfl⟩) rfl rfl rfl (Nat.le_of_ble_eq_true rfl) dL_law_1488 ⟨by show cells + 1 ≤ 601024; omega, by show slots + 6 ≤ 7293034; omega⟩ (fun k9 o9 u9 hu9 => ?_)
  obtain ⟨post9, hM9, hq9⟩ := hu9
  refine g_istore F (lv2 := [(5, _), (4, _), (0, _), (1, _), (2, _), (3, _)]) dL_law_1491 (by decide) rfl ?_
  refine g_aload_n F dL_law_1493 rfl 4 rfl ?_
  refine g_aload_n F dL_law_1494 rfl 2 rfl ?_
  refine g_iload F dL_law_1495 1 rfl ?_
  refine g_iconst F (v := 1) dL_law_1497 (by decide) ?_
  refine g_iadd F dL_law_1498 ?_
  refine g_sld F hX hb hbA (6 * j + 1) (nI_ad (6 * j) 1) (by omega) hL9 dL_law_1499 ?_
  refine g_callV F hM9 (cwV 1 F.1.2.2.2.2 gL_law_X9_errorsOf rfl rfl rfl (by decide +kernel) ⟨Nat.le_of_ble_eq_true rfl, Nat.le_of_ble_eq_true rfl⟩) r709 (by decide) rfl rfl rfl rfl (Nat.le_of_ble_eq_true rfl) dL_law_1500 ⟨by show cells + 1 + 0 ≤ 601024; omega, by show slots + 6 + 0 ≤ 7293034; omega⟩ (fun v9 u2 hv9 => ?_)
  obtain ⟨b9, rfl, hcc, ho, hI⟩ := hq9 _ _ _ hv9
  refine g_istore F (lv2 := [(6, _), (5, _), (4, _), (0, _), (1, _), (2, _), (3, _)]) dL_law_1503 (by decide) rfl ?_
  refine g_aload_n F dL_law_1505 rfl 5 rfl ?_
  refine g_callV F (kX9_thrown l) (cwV 0 F.1.2.2.2.2 gL_law_X9_thrown rfl rfl rfl (by decide +kernel) ⟨Nat.le_of_ble_eq_true rfl, Nat.le_of_ble_eq_true rfl⟩) r709 (by decide) rfl rfl rfl rfl (Nat.le_of_ble_eq_true rfl) dL_law_1506 ⟨by show cells + 1 + 0 ≤ 601024; omega, by show slots + 6 + 0 ≤ 7293034; omega⟩ (g_det ?_)
  refine g_iload F dL_law_1509 1 rfl ?_
  refine g_icmp_eq F 1516 dL_law_1511 (by decide) (fun h1 => ?_) (fun h1 => absurd hcc h1)
  refine g_iload F dL_law_1516 1 rfl ?_
  refine g_if_ne F 1533 dL_law_1518 (by decide) (fun h1 => ?_) (fun h1 => ?_)
  · refine g_goto F 2438 dL_law_1533 (by decide) ?_
    refine g_lv (lv2 := [(4, .int (nI (6 * j))), (0, .ref b), (1, .ref (B + 0)), (2, .ref (B + 709)), (3, .ref (B + 717))]) [2, 3, 4, 5, 6] rfl ?_
    refine g_widen (k := cells + 61) (n := slots + 366) (by show cells + 1 ≤ cells + 61; omega) (by show slots + 6 ≤ slots + 366; omega) ?_
    exact kk _ _ hI
  · refine g_aload_n F dL_law_1521 rfl 6 rfl ?_
    refine g_iconst F (v := 0) dL_law_1522 (by decide) ?_
    refine g_outld F hL dL_law_1523 ?_
    refine g_iload F dL_law_1524 0 rfl ?_
    refine g_i2l F dL_law_1526 ?_
    refine g_lcmp F dL_law_1527 ?_
    refine g_if_eq F 1533 dL_law_1528 (by decide) (fun h2 => ?_) (fun h2 => absurd (lg_eq0.mpr (ho h1)) h2)
    refine g_goto F 2438 dL_law_1533 (by decide) ?_
    refine g_lv (lv2 := [(4, .int (nI (6 * j))), (0, .ref b), (1, .ref (B + 0)), (2, .ref (B + 709)), (3, .ref (B + 717))]) [2, 3, 4, 5, 6] rfl ?_
    refine g_widen (k := cells + 61) (n := slots + 366) (by show cells + 1 ≤ cells + 61; omega) (by show slots + 6 ≤ slots + 366; omega) ?_
    exact kk _ _ hI
end LAWC
