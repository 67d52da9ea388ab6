section LAWC
variable {p : Program} {l : Launch} {e : Env} {s : State} {m : MethodId} {args : Array Value} {below : List Frame} {meth : Method} {c : Code} {Q : State → Prop} {D : va_G} {ca : Nat → ClassId} {cl : ClassId} {o : Nat → Int64} {B b L j : Nat} {xs : Nat → Int32} {cells slots : Nat} {M : Mm}

set_option maxHeartbeats 2000000 in
set_option maxRecDepth 100000 in
theorem law_c20 (hls : l.stackTraces = false) (F : Fx p room_1 s m args meth c cL_law 7 wsL_law RL D ca (AB B)) (hN : Nc3 s) (hL : va_K D vwCl [(cl, .long)] s) (hX : va_X b L xs s s.heap) (hb : b < s.heap.size) (hbA : ¬ AB B b) (hL9 : L ≤ 3072) (hj : 6 * j + 5 < L) (I : INV M) (hc : cells + 61 ≤ 601024) (hs : slots + 366 ≤ 7293034) (kk : ∀ (o' : Nat → Int64) (M' : Mm), INV M' → G p l e room_1 s m args below meth c Q D ca B (TL cl B o') (AB B) 7 (cells + 61) (slots + 366) M' 2438 [(4, .int (nI (6 * j))), (0, .ref b), (1, .ref (B + 0)), (2, .ref (B + 709)), (3, .ref (B + 717))] []) : G p l e room_1 s m args below meth c Q D ca B (TL cl B o) (AB B) 7 (cells) (slots) M 1536 [(4, .int (nI (6 * j))), (0, .ref b), (1, .ref (B + 0)), (2, .ref (B + 709)), (3, .ref (B + 717))] [] := by
  refine g_aload_n F dL_law_1536 rfl 2 rfl ?_
  obtain ⟨post8, hM8, hq8⟩ := S_bestObserver l I
  refine g_callV F hM8 (cwV 0 F.1.2.2.2.2 gL_law_X8_bestObserver rfl rfl rfl (by decide +kernel) ⟨Nat.le_of_ble_eq_true rfl, Nat.le_of_ble_eq_true rfl⟩) r0 (by decide) rfl rfl rfl rfl (Nat.le_of_ble_eq_true rfl) dL_law_1537 ⟨by show cells + 0 ≤ 601024; omega, by show slots + 0 ≤ 7293034; omega⟩ (fun v8 u8 hv8 => ?_)
  obtain ⟨a8, rfl, post9, hM9, hq9⟩ := hq8 _ _ _ hv8
  refine g_aload_n F dL_law_1540 rfl 3 rfl ?_
  refine g_callV F hM9 (cwV 0 F.1.2.2.2.2 gL_law_X9_bestObserver rfl rfl rfl (by decide +kernel) ⟨Nat.le_of_ble_eq_true rfl, Nat.le_of_ble_eq_true rfl⟩) r709 (by decide) rfl rfl rfl rfl (Nat.le_of_ble_eq_true rfl) dL_law_1541 ⟨by show cells + 0 + 0 ≤ 601024; omega, by show slots + 0 + 0 ≤ 7293034; omega⟩ (fun v9 u2 hv9 => ?_)
  obtain ⟨b9, rfl, hab, hI⟩ := hq9 _ _ _ hv9
  refine g_icmp_eq F 2438 dL_law_1544 (by decide) (fun h1 => ?_) (fun h1 => absurd hab h1)
  refine g_widen (k := cells + 61) (n := slots + 366) (by show cells + 0 ≤ cells + 61; omega) (by show slots + 0 ≤ slots + 366; omega) ?_
  exact kk _ _ hI
set_option maxHeartbeats 2000000 in
set_option maxRecDepth 100000 in
theorem law_c21 (hls : l.stackTraces = false) (F : Fx p room_1 s m args meth c cL_law 7 wsL_law RL D ca (AB B)) (hN : Nc3 s) (hL : va_K D vwCl [(cl, .long)] s) (hX : va_X b L xs s s.heap) (hb : b < s.heap.size) (hbA : ¬ AB B b) (hL9 : L ≤ 3072) (hj : 6 * j + 5 < L) (I : INV M) (hc : cells + 61 ≤ 601024) (hs : slots + 366 ≤ 7293034) (kk : ∀ (o' : Nat → Int64) (M' : Mm), INV M' → G p l e room_1 s m args below meth c Q D ca B (TL cl B o') (AB B) 7 (cells + 61) (slots + 366) M' 2438 [(4, .int (nI (6 * j))), (0, .ref b), (1, .ref (B + 0)), (2, .ref (B + 709)), (3, .ref (B + 717))] []) : G p l e room_1 s m args below meth c Q D ca B (TL cl B o) (AB B) 7 (cells) (slots) M 1549 [(4, .int (nI (6 * j))), (0, .ref b), (1, .ref (B + 0)), (2, .ref (B + 709)), (3, .ref (B + 717))] [] := by
  refine g_aload_n F dL_law_1549 rfl 2 rfl ?_
  obtain ⟨post8, hM8, hq8⟩ := S_notices l I
  refine g_callV F hM8 (cwV 0 F.1.2.2.2.2 gL_law_X8_notices rfl rfl rfl (by decide +kernel) ⟨Nat.le_of_ble_eq_true rfl, Nat.le_of_ble_eq_true rfl⟩) r0 (by decide) rfl rfl rfl rfl (Nat.le_of_ble_eq_true rfl) dL_law_1550 ⟨by show cells + 0 ≤ 601024; omega, by show slots + 0 ≤ 7293034; omega⟩ (fun v8 u8 hv8 => ?_)
  obtain ⟨a8, rfl, post9, hM9, hq9⟩ := hq8 _ _ _ hv8
  refine g_aload_n F dL_law_1553 rfl 3 rfl ?_
  refine g_callV F hM9 (cwV 0 F.1.2.2.2.2 gL_law_X9_notices rfl rfl rfl (by decide +kernel) ⟨Nat.le_of_ble_eq_true rfl, Nat.le_of_ble_eq_true rfl⟩) r709 (by decide) rfl rfl rfl rfl (Nat.le_of_ble_eq_true rfl) dL_law_1554 ⟨by show cells + 0 + 0 ≤ 601024; omega, by show slots + 0 + 0 ≤ 7293034; omega⟩ (fun v9 u2 hv9 => ?_)
  obtain ⟨b9, rfl, hab, hI⟩ := hq9 _ _ _ hv9
  refine g_icmp_eq F 2438 dL_law_1557 (by decide) (fun h1 => ?_) (fun h1 => absurd hab h1)
  refine g_widen (k := cells + 61) (n := slots + 366) (by show cells + 0 ≤ cells + 61; omega) (by show slots + 0 ≤ slots + 366; omega) ?_
  exact kk _ _ hI
set_option maxHeartbeats 2000000 in
set_option maxRecDepth 100000 in
theorem law_c22 (hls : l.stackTraces = false) (F : Fx p room_1 s m args meth c cL_law 7 wsL_law RL D ca (AB B)) (hN : Nc3 s) (hL : va_K D vwCl [(cl, .long)] s) (hX : va_X b L xs s s.heap) (hb : b < s.heap.size) (hbA : ¬ AB B b) (hL9 : L ≤ 3072) (hj : 6 * j + 5 < L) (I : INV M) (hc : cells + 61 ≤ 601024) (hs : slots + 366 ≤ 7293034) (kk : ∀ (o' : Nat → Int64) (M' : Mm), INV M' → G p l e room_1 s m args below meth c Q D ca B (TL cl B o') (AB B) 7 (cells + 61) (slots + 366) M' 2438 [(4, .int (nI (6 * j))), (0, .ref b), (1, .ref (B + 0)), (2, .ref (B + 709)), (3, .ref (B + 717))] []) : G p l e room_1 s m args below meth c Q D ca B (TL cl B o) (AB B) 7 (cells) (slots) M 1562 [(4, .int (nI (6 * j))), (0, .ref b), (1, .ref (B + 0)), (2, .ref (B + 709)), (3, .ref (B + 717))] [] := by
  refine g_aload_n F dL_law_1562 rfl 2 rfl ?_
  refine g_aload_n F dL_law_1563 rfl 1 rfl ?_
  refine g_iload F dL_law_1564 0 rfl ?_
  refine g_iconst F (v := 1) dL_law_1566 (by decide) ?_
  refine g_iadd F dL_law_1567 ?_
  refine g_sld F hX hb hbA (6 * j + 1) (nI_ad (6 * j) 1) (by omega) hL9 dL_law_1568 ?_
  refine g_aload_n F dL_law_1569 rfl 4 rfl ?_
  refine g_callW F hN hL (S_chimneyOf l hls I (xs (6 * j + 1))) (vx_cwSW 3 F.1.2.2.2.2 gL_law_L_chimneyOf rfl rfl rfl (by decide +kernel) ⟨Nat.le_of_ble_eq_true rfl, Nat.le_of_ble_eq_true rfl⟩) rfl rfl rfl (Nat.le_of_ble_eq_true rfl) dL_law_1570 ⟨by show cells + 1 ≤ 601024; omega, by show slots + 6 ≤ 7293034; omega⟩ (fun k9 o9 u9 hu9 => ?_)
  obtain ⟨post9, hM9, hq9⟩ := hu9
  refine g_istore F (lv2 := [(5, _), (4, _), (0, _), (1, _), (2, _), (3, _)]) dL_law_1573 (by decide) rfl ?_
  refine g_aload_n F dL_law_1575 rfl 4 rfl ?_
  refine g_aload_n F dL_law_1576 rfl 2 rfl ?_
  refine g_iload F dL_law_1577 1 rfl ?_
  refine g_iconst F (v := 1) dL_law_1579 (by decide) ?_
  refine g_iadd F dL_law_1580 ?_
  refine g_sld F hX hb hbA (6 * j + 1) (nI_ad (6 * j) 1) (by omega) hL9 dL_law_1581 ?_
  refine g_callV F hM9 (cwV 1 F.1.2.2.2.2 gL_law_X9_chimneyOf rfl rfl rfl (by decide +kernel) ⟨Nat.le_of_ble_eq_true rfl, Nat.le_of_ble_eq_true rfl⟩) r709 (by decide) rfl rfl rfl rfl (Nat.le_of_ble_eq_true rfl) dL_law_1582 ⟨by show cells + 1 + 0 ≤ 601024; omega, by show slots + 6 + 0 ≤ 7293034; omega⟩ (fun v9 u2 hv9 => ?_)
  obtain ⟨b9, rfl, hcc, ho, hI⟩ := hq9 _ _ _ hv9
  refine g_istore F (lv2 := [(6, _), (5, _), (4, _), (0, _), (1, _), (2, _), (3, _)]) dL_law_1585 (by decide) rfl ?_
  refine g_aload_n F dL_law_1587 rfl 5 rfl ?_
  refine g_callV F (kX9_thrown l) (cwV 0 F.1.2.2.2.2 gL_law_X9_thrown rfl rfl rfl (by decide +kernel) ⟨Nat.le_of_ble_eq_true rfl, Nat.le_of_ble_eq_true rfl⟩) r709 (by decide) rfl rfl rfl rfl (Nat.le_of_ble_eq_true rfl) dL_law_1588 ⟨by show cells + 1 + 0 ≤ 601024; omega, by show slots + 6 + 0 ≤ 7293034; omega⟩ (g_det ?_)
  refine g_iload F dL_law_1591 1 rfl ?_
  refine g_icmp_eq F 1598 dL_law_1593 (by decide) (fun h1 => ?_) (fun h1 => absurd hcc h1)
  refine g_iload F dL_law_1598 1 rfl ?_
  refine g_if_ne F 1615 dL_law_1600 (by decide) (fun h1 => ?_) (fun h1 => ?_)
  · refine g_goto F 2438 dL_law_1615 (by decide) ?_
    refine g_lv (lv2 := [(4, .int (nI (6 * j))), (0, .ref b), (1, .ref (B + 0)), (2, .ref (B + 709)), (3, .ref (B + 717))]) [2, 3, 4, 5, 6] rfl ?_
    refine g_widen (k := cells + 61) (n := slots + 366) (by show cells + 1 ≤ cells + 61; omega) (by show slots + 6 ≤ slots + 366; omega) ?_
    exact kk _ _ hI
  · refine g_aload_n F dL_law_1603 rfl 6 rfl ?_
    refine g_iconst F (v := 0) dL_law_1604 (by decide) ?_
    refine g_outld F hL dL_law_1605 ?_
    refine g_iload F dL_law_1606 0 rfl ?_
    refine g_i2l F dL_law_1608 ?_
    refine g_lcmp F dL_law_1609 ?_
    refine g_if_eq F 1615 dL_law_1610 (by decide) (fun h2 => ?_) (fun h2 => absurd (lg_eq0.mpr (ho h1)) h2)
    refine g_goto F 2438 dL_law_1615 (by decide) ?_
    refine g_lv (lv2 := [(4, .int (nI (6 * j))), (0, .ref b), (1, .ref (B + 0)), (2, .ref (B + 709)), (3, .ref (B + 717))]) [2, 3, 4, 5, 6] rfl ?_
    refine g_widen (k := cells + 61) (n := slots + 366) (by show cells + 1 ≤ cells + 61; omega) (by show slots + 6 ≤ slots + 366; omega) ?_
    exact kk _ _ hI
set_option maxHeartbeats 2000000 in
set_option maxRecDepth 100000 in
theorem law_c23 (hls : l.stackTraces = false) (F : Fx p room_1 s m args meth c cL_law 7 wsL_law RL D ca (AB B)) (hN : Nc3 s) (hL : va_K D vwCl [(cl, .long)] s) (hX : va_X b L xs s s.heap) (hb : b < s.heap.size) (hbA : ¬ AB B b) (hL9 : L ≤ 3072) (hj : 6 * j + 5 < L) (I : INV M) (hc : cells + 61 ≤ 601024) (hs : slots + 366 ≤ 7293034) (kk : ∀ (o' : Nat → Int64) (M' : Mm), INV M' → G p l e room_1 s m args below meth c Q D ca B (TL cl B o') (AB B) 7 (cells + 61) (slots + 366) M' 2438 [(4, .int (nI (6 * j))), (0, .ref b), (1, .ref (B + 0)), (2, .ref (B + 709)), (3, .ref (B + 717))] []) : G p l e room_1 s m args below meth c Q D ca B (TL cl B o) (AB B) 7 (cells) (slots) M 1618 [(4, .int (nI (6 * j))), (0, .ref b), (1, .ref (B + 0)), (2, .ref (B + 709)), (3, .ref (B + 717))] [] := by
  refine g_aload_n F dL_law_1618 rfl 2 rfl ?_
  refine g_aload_n F dL_law_1619 rfl 1 rfl ?_
  refine g_iload F dL_law_1620 0 rfl ?_
  refine g_iconst F (v := 1) dL_law_1622 (by decide) ?_
  refine g_iadd F dL_law_1623 ?_
  refine g_sld F hX hb hbA (6 * j + 1) (nI_ad (6 * j) 1) (by omega) hL9 dL_law_1624 ?_
  refine g_aload_n F dL_law_1625 rfl 4 rfl ?_
  refine g_callW F hN hL (S_fineOf l hls I (xs (6 * j + 1))) (vx_cwSW 3 F.1.2.2.2.2 gL_law_L_fineOf rfl rfl rfl (by decide +kernel) ⟨Nat.le_of_ble_eq_true rfl, Nat.le_of_ble_eq_true rfl⟩) rfl rfl rfl (Nat.le_of_ble_eq_true rfl) dL_law_1626 ⟨by show cells + 1 ≤ 601024; omega, by show slots + 6 ≤ 7293034; omega⟩ (fun k9 o9 u9 hu9 => ?_)
  obtain ⟨post9, hM9, hq9⟩ := hu9
  refine g_istore F (lv2 := [(5, _), (4, _), (0, _), (1, _), (2, _), (3, _)]) dL_law_1629 (by decide) rfl ?_
  refine g_aload_n F dL_law_1631 rfl 4 rfl ?_
  refine g_aload_n F dL_law_1632 rfl 2 rfl ?_
  refine g_iload F dL_law_1633 1 rfl ?_
  refine g_iconst F (v := 1) dL_law_1635 (by decide) ?_
  refine g_iadd F dL_law_1636 ?_
  refine g_sld F hX hb hbA (6 * j + 1) (nI_ad (6 * j) 1) (by omega) hL9 dL_law_1637 ?_
  refine g_callV F hM9 (cwV 1 F.1.2.2.2.2 gL_law_X9_fineOf rfl rfl rfl (by decide +kernel) ⟨Nat.le_of_ble_eq_true rfl, Nat.le_of_ble_eq_true rfl⟩) r709 (by decide) rfl rfl rfl rfl (Nat.le_of_ble_eq_true rfl) dL_law_1638 ⟨by show cells + 1 + 0 ≤ 601024; omega, by show slots + 6 + 0 ≤ 7293034; omega⟩ (fun v9 u2 hv9 => ?_)
  obtain ⟨b9, rfl, hcc, ho, hI⟩ := hq9 _ _ _ hv9
  refine g_istore F (lv2 := [(6, _), (5, _), (4, _), (0, _), (1, _), (2, _), (3, _)]) dL_law_1641 (by decide) rfl ?_
  refine g_aload_n F dL_law_1643 rfl 5 rfl ?_
  refine g_callV F (kX9_thrown l) (cwV 0 F.1.2.2.2.2 gL_law_X9_thrown rfl rfl rfl (by decide +kernel) ⟨Nat.le_of_ble_eq_true rfl, Nat.le_of_ble_eq_true rfl⟩) r709 (by decide) rfl rfl rfl rfl (Nat.le_of_ble_eq_true rfl) dL_law_1644 ⟨by show cells + 1 + 0 ≤ 601024; omega, by show slots + 6 + 0 ≤ 7293034; omega⟩ (g_det ?_)
  refine g_iload F dL_law_1647 1 rfl ?_
  refine g_icmp_eq F 1654 dL_law_1649 (by decide) (fun h1 => ?_) (fun h1 => absurd hcc h1)
  refine g_iload F dL_law_1654 1 rfl ?_
  refine g_if_ne F 1671 dL_law_1656 (by decide) (fun h1 => ?_) (fun h1 => ?_)
  · refine g_goto F 2438 dL_law_1671 (by decide) ?_
    refine g_lv (lv2 := [(4, .int (nI (6 * j))), (0, .ref b), (1, .ref (B + 0)), (2, .ref (B + 709)), (3, .ref (B + 717))]) [2, 3, 4, 5, 6] rfl ?_
    refine g_widen (k := cells + 61) (n := slots + 366) (by show cells + 1 ≤ cells + 61; omega) (by show slots + 6 ≤ slots + 366; omega) ?_
    exact kk _ _ hI
  · refine g_aload_n F dL_law_1659 rfl 6 rfl ?_
    refine g_iconst F (v := 0) dL_law_1660 (by decide) ?_
    refine g_outld F hL dL_law_1661 ?_
    refine g_iload F dL_law_1662 0 rfl ?_
    refine g_i2l F dL_law_1664 ?_
    refine g_lcmp F dL_law_1665 ?_
    refine g_if_eq F 1671 dL_law_1666 (by decide) (fun h2 => ?_) (fun h2 => absurd (lg_eq0.mpr (ho h1)) h2)
    refine g_goto F 2438 dL_law_1671 (by decide) ?_
    refine g_lv (lv2 := [(4, .int (nI (6 * j))), (0, .ref b), (1, .ref (B + 0)), (2, .ref (B + 709)), (3, .ref (B + 717))]) [2, 3, 4, 5, 6] rfl ?_
    refine g_widen (k := cells + 61) (n := slots + 366) (by show cells + 1 ≤ cells + 61; omega) (by show slots + 6 ≤ slots + 366; omega) ?_
    exact kk _ _ hI
set_option maxHeartbeats 2000000 in
set_option maxRecDepth 100000 in
theorem law_c24 (hls : l.stackTraces = false) (F : Fx p room_1 s m args meth c cL_law 7 wsL_law RL D ca (AB B)) (hN : Nc3 s) (hL : va_K D vwCl [(cl, .long)] s) (hX : va_X b L xs s s.heap) (hb : b < s.heap.size) (hbA : ¬ AB B b) (hL9 : L ≤ 3072) (hj : 6 * j + 5 < L) (I : INV M) (hc : cells + 61 ≤ 601024) (hs : slots + 366 ≤ 7293034) (kk : ∀ (o' : Nat → Int64) (M' : Mm), INV M' → G p l e room_1 s m args below meth c Q D ca B (TL cl B o') (AB B) 7 (cells + 61) (slots + 366) M' 2438 [(4, .int (nI (6 * j))), (0, .ref b), (1, .ref (B + 0)), (2, .ref (B + 709)), (3, .ref (B + 717))] []) : G p l e room_1 s m args below meth c Q D ca B (TL cl B o) (AB B) 7 (cells) (slots) M 1674 [(4, .int (nI (6 * j))), (0, .ref b), (1, .ref (B + 0)), (2, .ref (B + 709)), (3, .ref (B + 717))] [] := by
  refine g_aload_n F dL_law_1674 rfl 2 rfl ?_
  refine g_aload_n F dL_law_1675 rfl 1 rfl ?_
  refine g_iload F dL_law_1676 0 rfl ?_
  refine g_iconst F (v := 1) dL_law_1678 (by decide) ?_
  refine g_iadd F dL_law_1679 ?_
  refine g_sld F hX hb hbA (6 * j + 1) (nI_ad (6 * j) 1) (by omega) hL9 dL_law_1680 ?_
  refine g_aload_n F dL_law_1681 rfl 4 rfl ?_
  refine g_callW F hN hL (S_stands l hls I (xs (6 * j + 1))) (vx_cwSW 3 F.1.2.2.2.2 gL_law_L_stands rfl rfl rfl (by decide +kernel) ⟨Nat.le_of_ble_eq_true rfl, Nat.le_of_ble_eq_true rfl⟩) rfl rfl rfl (Nat.le_of_ble_eq_true rfl) dL_law_1682 ⟨by show cells + 1 ≤ 601024; omega, by show slots + 6 ≤ 7293034; omega⟩ (fun k9 o9 u9 hu9 => ?_)
  obtain ⟨post9, hM9, hq9⟩ := hu9
  refine g_istore F (lv2 := [(5, _), (4, _), (0, _), (1, _), (2, _), (3, _)]) dL_law_1685 (by decide) rfl ?_
  refine g_aload_n F dL_law_1687 rfl 4 rfl ?_
  refine g_aload_n F dL_law_1688 rfl 2 rfl ?_
  refine g_iload F dL_law_1689 1 rfl ?_
  refine g_iconst F (v := 1) dL_law_1691 (by decide) ?_
  refine g_iadd F dL_law_1692 ?_
  refine g_sld F hX hb hbA (6 * j + 1) (nI_ad (6 * j) 1) (by omega) hL9 dL_law_1693 ?_
  refine g_callV F hM9 (cwV 1 F.1.2.2.2.2 gL_law_X9_stands rfl rfl rfl (by decide +kernel) ⟨Nat.le_of_ble_eq_true rfl, Nat.le_of_ble_eq_true rfl⟩) r709 (by decide) rfl rfl rfl rfl (Nat.le_of_ble_eq_true rfl) dL_law_1694 ⟨by show cells + 1 + 0 ≤ 601024; omega, by show slots + 6 + 0 ≤ 7293034; omega⟩ (fun v9 u2 hv9 => ?_)
  obtain ⟨b9, rfl, hcc, ho, hI⟩ := hq9 _ _ _ hv9
  refine g_istore F (lv2 := [(6, _), (5, _), (4, _), (0, _), (1, _), (2, _), (3, _)]) dL_law_1697 (by decide) rfl ?_
  refine g_aload_n F dL_law_1699 rfl 5 rfl ?_
  refine g_callV F (kX9_thrown l) (cwV 0 F.1.2.2.2.2 gL_law_X9_thrown rfl rfl rfl (by decide +kernel) ⟨Nat.le_of_ble_eq_true rfl, Nat.le_of_ble_eq_true rfl⟩) r709 (by decide) rfl rfl rfl rfl (Nat.le_of_ble_eq_true rfl) dL_law_1700 ⟨by show cells + 1 + 0 ≤ 601024; omega, by show slots + 6 + 0 ≤ 7293034; omega⟩ (g_det ?_)
  refine g_iload F dL_law_1703 1 rfl ?_
  refine g_icmp_eq F 1710 dL_law_1705 (by decide) (fun h1 => ?_) (fun h1 => absurd hcc h1)
  refine g_iload F dL_law_1710 1 rfl ?_
  refine g_if_ne F 1734 dL_law_1712 (by decide) (fun h1 => ?_) (fun h1 => ?_)
  · refine g_goto F 2438 dL_law_1734 (by decide) ?_
    refine g_lv (lv2 := [(4, .int (nI (6 * j))), (0, .ref b), (1, .ref (B + 0)), (2, .ref (B + 709)), (3, .ref (B + 717))]) [2, 3, 4, 5, 6] rfl ?_
    refine g_widen (k := cells + 61) (n := slots + 366) (by show cells + 1 ≤ cells + 61; omega) (by show slots + 6 ≤ slots + 366; omega) ?_
    exact kk _ _ hI
  · refine g_aload_n F dL_law_1715 rfl 6 rfl ?_
    refine g_iconst F (v := 0) dL_law_1716 (by decide) ?_
    refine g_outld F hL dL_law_1717 ?_
    refine g_iload F dL_law_1718 0 rfl ?_
    refine g_if_eq F 1727 dL_law_1720 (by decide) (fun h3 => ?_) (fun h3 => ?_)
    · refine g_lconst F (v := 0) dL_law_1727 (by decide) ?_
      refine g_lcmp F dL_law_1728 ?_
      refine g_if_eq F 1734 dL_law_1729 (by decide) (fun h2 => ?_) (fun h2 => absurd (lg_eq0.mpr ((ho h1).trans (bL_0 h3))) h2)
      refine g_goto F 2438 dL_law_1734 (by decide) ?_
      refine g_lv (lv2 := [(4, .int (nI (6 * j))), (0, .ref b), (1, .ref (B + 0)), (2, .ref (B + 709)), (3, .ref (B + 717))]) [2, 3, 4, 5, 6] rfl ?_
      refine g_widen (k := cells + 61) (n := slots + 366) (by show cells + 1 ≤ cells + 61; omega) (by show slots + 6 ≤ slots + 366; omega) ?_
      exact kk _ _ hI
    · refine g_lconst F (v := 1) dL_law_1723 (by decide) ?_
      refine g_goto F 1728 dL_law_1724 (by decide) ?_
      refine g_lcmp F dL_law_1728 ?_
      refine g_if_eq F 1734 dL_law_1729 (by decide) (fun h2 => ?_) (fun h2 => absurd (lg_eq0.mpr ((ho h1).trans (bL_1 h3))) h2)
      refine g_goto F 2438 dL_law_1734 (by decide) ?_
      refine g_lv (lv2 := [(4, .int (nI (6 * j))), (0, .ref b), (1, .ref (B + 0)), (2, .ref (B + 709)), (3, .ref (B + 717))]) [2, 3, 4, 5, 6] rfl ?_
      refine g_widen (k := cells + 61) (n := slots + 366) (by show cells + 1 ≤ cells + 61; omega) (by show slots + 6 ≤ slots + 366; omega) ?_
      exact kk _ _ hI
set_option maxHeartbeats 2000000 in
set_option maxRecDepth 100000 in
theorem law_c25 (hls : l.stackTraces = false) (F : Fx p room_1 s m args meth c cL_law 7 wsL_law RL D ca (AB B)) (hN : Nc3 s) (hL : va_K D vwCl [(cl, .long)] s) (hX : va_X b L xs s s.heap) (hb : b < s.heap.size) (hbA : ¬ AB B b) (hL9 : L ≤ 3072) (hj : 6 * j + 5 < L) (I : INV M) (hc : cells + 61 ≤ 601024) (hs : slots + 366 ≤ 7293034) (kk : ∀ (o' : Nat → Int64) (M' : Mm), INV M' → G p l e room_1 s m args below meth c Q D ca B (TL cl B o') (AB B) 7 (cells + 61) (slots + 366) M' 2438 [(4, .int (nI (6 * j))), (0, .ref b), (1, .ref (B + 0)), (2, .ref (B + 709)), (3, .ref (B + 717))] []) : G p l e room_1 s m args below meth c Q D ca B (TL cl B o) (AB B) 7 (cells) (slots) M 1737 [(4, .int (nI (6 * j))), (0, .ref b), (1, .ref (B + 0)), (2, .ref (B + 709)), (3, .ref (B + 717))] [] := by
  refine g_aload_n F dL_law_1737 rfl 2 rfl ?_
  refine g_aload_n F dL_law_1738 rfl 1 rfl ?_
  refine g_iload F dL_law_1739 0 rfl ?_
  refine g_iconst F (v := 1) dL_law_1741 (by decide) ?_
  refine g_iadd F dL_law_1742 ?_
  refine g_sld F hX hb hbA (6 * j + 1) (nI_ad (6 * j) 1) (by omega) hL9 dL_law_1743 ?_
  refine g_aload_n F dL_law_1744 rfl 4 rfl ?_
  refine g_callW F hN hL (S_wouldAppeal l hls I (xs (6 * j + 1))) (vx_cwSW 3 F.1.2.2.2.2 gL_law_L_wouldAppeal rfl rfl rfl (by decide +kernel) ⟨Nat.le_of_ble_eq_true rfl, Nat.le_of_ble_eq_true rfl⟩) rfl rfl rfl (Nat.le_of_ble_eq_true rfl) dL_law_1745 ⟨by show cells + 1 ≤ 601024; omega, by show slots + 6 ≤ 7293034; omega⟩ (fun k9 o9 u9 hu9 => ?_)
  obtain ⟨post9, hM9, hq9⟩ := hu9
  refine g_istore F (lv2 := [(5, _), (4, _), (0, _), (1, _), (2, _), (3, _)]) dL_law_1748 (by decide) rfl ?_
  refine g_aload_n F dL_law_1750 rfl 4 rfl ?_
  refine g_aload_n F dL_law_1751 rfl 2 rfl ?_
  refine g_iload F dL_law_1752 1 rfl ?_
  refine g_iconst F (v := 1) dL_law_1754 (by decide) ?_
  refine g_iadd F dL_law_1755 ?_
  refine g_sld F hX hb hbA (6 * j + 1) (nI_ad (6 * j) 1) (by omega) hL9 dL_law_1756 ?_
  refine g_callV F hM9 (cwV 1 F.1.2.2.2.2 gL_law_X9_wouldAppeal rfl rfl rfl (by decide +kernel) ⟨Nat.le_of_ble_eq_true rfl, Nat.le_of_ble_eq_true rfl⟩) r709 (by decide) rfl rfl rfl rfl (Nat.le_of_ble_eq_true rfl) dL_law_1757 ⟨by show cells + 1 + 0 ≤ 601024; omega, by show slots + 6 + 0 ≤ 7293034; omega⟩ (fun v9 u2 hv9 => ?_)
  obtain ⟨b9, rfl, hcc, ho, hI⟩ := hq9 _ _ _ hv9
  refine g_istore F (lv2 := [(6, _), (5, _), (4, _), (0, _), (1, _), (2, _), (3, _)]) dL_law_1760 (by decide) rfl ?_
  refine g_aload_n F dL_law_1762 rfl 5 rfl ?_
  refine g_callV F (kX9_thrown l) (cwV 0 F.1.2.2.2.2 gL_law_X9_thrown rfl rfl rfl (by decide +kernel) ⟨Nat.le_of_ble_eq_true rfl, Nat.le_of_ble_eq_true rfl⟩) r709 (by decide) rfl rfl rfl rfl (Nat.le_of_ble_eq_true rfl) dL_law_1763 ⟨by show cells + 1 + 0 ≤ 601024; omega, by show slots + 6 + 0 ≤ 7293034; omega⟩ (g_det ?_)
  refine g_iload F dL_law_1766 1 rfl ?_
  refine g_icmp_eq F 1773 dL_law_1768 (by decide) (fun h1 => ?_) (fun h1 => absurd hcc h1)
  refine g_iload F dL_law_1773 1 rfl ?_
  refine g_if_ne F 1790 dL_law_1775 (by decide) (fun h1 => ?_) (fun h1 => ?_)
  · refine g_goto F 2438 dL_law_1790 (by decide) ?_
    refine g_lv (lv2 := [(4, .int (nI (6 * j))), (0, .ref b), (1, .ref (B + 0)), (2, .ref (B + 709)), (3, .ref (B + 717))]) [2, 3, 4, 5, 6] rfl ?_
    refine g_widen (k := cells + 61) (n := slots + 366) (by show cells + 1 ≤ cells + 61; omega) (by show slots + 6 ≤ slots + 366; omega) ?_
    exact kk _ _ hI
  · refine g_aload_n F dL_law_1778 rfl 6 rfl ?_
    refine g_iconst F (v := 0) dL_law_1779 (by decide) ?_
    refine g_outld F hL dL_law_1780 ?_
    refine g_iload F dL_law_1781 0 rfl ?_
    refine g_i2l F dL_law_1783 ?_
    refine g_lcmp F dL_law_1784 ?_
    refine g_if_eq F 1790 dL_law_1785 (by decide) (fun h2 => ?_) (fun h2 => absurd (lg_eq0.mpr (ho h1)) h2)
    refine g_goto F 2438 dL_law_1790 (by decide) ?_
    refine g_lv (lv2 := [(4, .int (nI (6 * j))), (0, .ref b), (1, .ref (B + 0)), (2, .ref (B + 709)), (3, .ref (B + 717))]) [2, 3, 4, 5, 6] rfl ?_
    refine g_widen (k := cells + 61) (n := slots + 366) (by show cells + 1 ≤ cells + 61; omega) (by show slots + 6 ≤ slots + 366; omega) ?_
    exact kk _ _ hI
set_option maxHeartbeats 2000000 in
set_option maxRecDepth 100000 in
theorem law_c26 (hls : l.stackTraces = false) (F : Fx p room_1 s m args meth c cL_law 7 wsL_law RL D ca (AB B)) (hN : Nc3 s) (hL : va_K D vwCl [(cl, .long)] s) (hX : va_X b L xs s s.heap) (hb : b < s.heap.size) (hbA : ¬ AB B b) (hL9 : L ≤ 3072) (hj : 6 * j + 5 < L) (I : INV M) (hc : cells + 61 ≤ 601024) (hs : slots + 366 ≤ 7293034) (kk : ∀ (o' : Nat → Int64) (M' : Mm), INV M' → G p l e room_1 s m args below meth c Q D ca B (TL cl B o') (AB B) 7 (cells + 61) (slots + 366) M' 2438 [(4, .int (nI (6 * j))), (0, .ref b), (1, .ref (B + 0)), (2, .ref (B + 709)), (3, .ref (B + 717))] []) : G p l e room_1 s m args below meth c Q D ca B (TL cl B o) (AB B) 7 (cells) (slots) M 1793 [(4, .int (nI (6 * j))), (0, .ref b), (1, .ref (B + 0)), (2, .ref (B + 709)), (3, .ref (B + 717))] [] := by
  refine g_aload_n F dL_law_1793 rfl 2 rfl ?_
  refine g_aload_n F dL_law_1794 rfl 1 rfl ?_
  refine g_iload F dL_law_1795 0 rfl ?_
  refine g_iconst F (v := 1) dL_law_1797 (by decide) ?_
  refine g_iadd F dL_law_1798 ?_
  refine g_sld F hX hb hbA (6 * j + 1) (nI_ad (6 * j) 1) (by omega) hL9 dL_law_1799 ?_
  refine g_aload_n F dL_law_1800 rfl 1 rfl ?_
  refine g_iload F dL_law_1801 0 rfl ?_
  refine g_iconst F (v := 2) dL_law_1803 (by decide) ?_
  refine g_iadd F dL_law_1804 ?_
  refine g_sld F hX hb hbA (6 * j + 2) (nI_ad (6 * j) 2) (by omega) hL9 dL_law_1805 ?_
  refine g_bool F 1813 1814 dL_law_1806 (by decide) dL_law_1809 dL_law_1810 (by decide) dL_law_1813 rfl ?_
  refine g_aload_n F dL_law_1814 rfl 4 rfl ?_
  refine g_callW F hN hL (S_finesOf l hls I (xs (6 * j + 1)) (b2i (¬ (xs (6 * j + 2)) = 0))) (vx_cwSW 4 F.1.2.2.2.2 gL_law_L_finesOf rfl rfl rfl (by decide +kernel) ⟨Nat.le_of_ble_eq_true rfl, Nat.le_of_ble_eq_true rfl⟩) rfl rfl rfl (Nat.le_of_ble_eq_true rfl) dL_law_1815 ⟨by show cells + 1 ≤ 601024; omega, by show slots + 6 ≤ 7293034; omega⟩ (fun k9 o9 u9 hu9 => ?_)
  obtain ⟨post9, hM9, hq9⟩ := hu9
  refine g_istore F (lv2 := [(5, _), (4, _), (0, _), (1, _), (2, _), (3, _)]) dL_law_1818 (by decide) rfl ?_
  refine g_aload_n F dL_law_1820 rfl 4 rfl ?_
  refine g_aload_n F dL_law_1821 rfl 2 rfl ?_
  refine g_iload F dL_law_1822 1 rfl ?_
  refine g_iconst F (v := 1) dL_law_1824 (by decide) ?_
  refine g_iadd F dL_law_1825 ?_
  refine g_sld F hX hb hbA (6 * j + 1) (nI_ad (6 * j) 1) (by omega) hL9 dL_law_1826 ?_
  refine g_aload_n F dL_law_1827 rfl 2 rfl ?_
  refine g_iload F dL_law_1828 1 rfl ?_
  refine g_iconst F (v := 2) dL_law_1830 (by decide) ?_
  refine g_iadd F dL_law_1831 ?_
  refine g_sld F hX hb hbA (6 * j + 2) (nI_ad (6 * j) 2) (by omega) hL9 dL_law_1832 ?_
  refine g_bool F 1840 1841 dL_law_1833 (by decide) dL_law_1836 dL_law_1837 (by decide) dL_law_1840 rfl ?_
  refine g_callV F hM9 (cwV 2 F.1.2.2.2.2 gL_law_X9_finesOf rfl rfl rfl (by decide +kernel) ⟨Nat.le_of_ble_eq_true rfl, Nat.le_of_ble_eq_true rfl⟩) r709 (by decide) rfl rfl rfl rfl (Nat.le_of_ble_eq_true rfl) dL_law_1841 ⟨by show cells + 1 + 0 ≤ 601024; omega, by show slots + 6 + 0 ≤ 7293034; omega⟩ (fun v9 u2 hv9 => ?_)
  obtain ⟨b9, rfl, hcc, ho, hI⟩ := hq9 _ _ _ hv9
  refine g_istore F (lv2 := [(6, _), (5, _), (4, _), (0, _), (1, _), (2, _), (3, _)]) dL_law_1844 (by decide) rfl ?_
  refine g_aload_n F dL_law_1846 rfl 5 rfl ?_
  refine g_callV F (kX9_thrown l) (cwV 0 F.1.2.2.2.2 gL_law_X9_thrown rfl rfl rfl (by decide +kernel) ⟨Nat.le_of_ble_eq_true rfl, Nat.le_of_ble_eq_true rfl⟩) r709 (by decide) rfl rfl rfl rfl (Nat.le_of_ble_eq_true rfl) dL_law_1847 ⟨by show cells + 1 + 0 ≤ 601024; omega, by show slots + 6 + 0 ≤ 7293034; omega⟩ (g_det ?_)
  refine g_iload F dL_law_1850 1 rfl ?_
  refine g_icmp_eq F 1857 dL_law_1852 (by decide) (fun h1 => ?_) (fun h1 => absurd hcc h1)
  refine g_iload F dL_law_1857 1 rfl ?_
  refine g_if_ne F 1874 dL_law_1859 (by decide) (fun h1 => ?_) (fun h1 => ?_)
  · refine g_goto F 2438 dL_law_1874 (by decide) ?_
    refine g_lv (lv2 := [(4, .int (nI (6 * j))), (0, .ref b), (1, .ref (B + 0)), (2, .ref (B + 709)), (3, .ref (B + 717))]) [2, 3, 4, 5, 6] rfl ?_
    refine g_widen (k := cells + 61) (n := slots + 366) (by show cells + 1 ≤ cells + 61; omega) (by show slots + 6 ≤ slots + 366; omega) ?_
    exact kk _ _ hI
  · refine g_aload_n F dL_law_1862 rfl 6 rfl ?_
    refine g_iconst F (v := 0) dL_law_1863 (by decide) ?_
    refine g_outld F hL dL_law_1864 ?_
    refine g_iload F dL_law_1865 0 rfl ?_
    refine g_i2l F dL_law_1867 ?_
    refine g_lcmp F dL_law_1868 ?_
    refine g_if_eq F 1874 dL_law_1869 (by decide) (fun h2 => ?_) (fun h2 => absurd (lg_eq0.mpr (ho h1)) h2)
    refine g_goto F 2438 dL_law_1874 (by decide) ?_
    refine g_lv (lv2 := [(4, .int (nI (6 * j))), (0, .ref b), (1, .ref (B + 0)), (2, .ref (B + 709)), (3, .ref (B + 717))]) [2, 3, 4, 5, 6] rfl ?_
    refine g_widen (k := cells + 61) (n := slots + 366) (by show cells + 1 ≤ cells + 61; omega) (by show slots + 6 ≤ slots + 366; omega) ?_
    exact kk _ _ hI
set_option maxHeartbeats 2000000 in
set_option maxRecDepth 100000 in
theorem law_c27 (hls : l.stackTraces = false) (F : Fx p room_1 s m args meth c cL_law 7 wsL_law RL D ca (AB B)) (hN : Nc3 s) (hL : va_K D vwCl [(cl, .long)] s) (hX : va_X b L xs s s.heap) (hb : b < s.heap.size) (hbA : ¬ AB B b) (hL9 : L ≤ 3072) (hj : 6 * j + 5 < L) (I : INV M) (hc : cells + 61 ≤ 601024) (hs : slots + 366 ≤ 7293034) (kk : ∀ (o' : Nat → Int64) (M' : Mm), INV M' → G p l e room_1 s m args below meth c Q D ca B (TL cl B o') (AB B) 7 (cells + 61) (slots + 366) M' 2438 [(4, .int (nI (6 * j))), (0, .ref b), (1, .ref (B + 0)), (2, .ref (B + 709)), (3, .ref (B + 717))] []) : G p l e room_1 s m args below meth c Q D ca B (TL cl B o) (AB B) 7 (cells) (slots) M 1877 [(4, .int (nI (6 * j))), (0, .ref b), (1, .ref (B + 0)), (2, .ref (B + 709)), (3, .ref (B + 717))] [] := by
  refine g_aload_n F dL_law_1877 rfl 2 rfl ?_
  obtain ⟨post8, hM8, hq8⟩ := S_worstChimney l I
  refine g_callV F hM8 (cwV 0 F.1.2.2.2.2 gL_law_X8_worstChimney rfl rfl rfl (by decide +kernel) ⟨Nat.le_of_ble_eq_true rfl, Nat.le_of_ble_eq_true rfl⟩) r0 (by decide) rfl rfl rfl rfl (Nat.le_of_ble_eq_true rfl) dL_law_1878 ⟨by show cells + 0 ≤ 601024; omega, by show slots + 0 ≤ 7293034; omega⟩ (fun v8 u8 hv8 => ?_)
  obtain ⟨a8, rfl, post9, hM9, hq9⟩ := hq8 _ _ _ hv8
  refine g_aload_n F dL_law_1881 rfl 3 rfl ?_
  refine g_callV F hM9 (cwV 0 F.1.2.2.2.2 gL_law_X9_worstChimney rfl rfl rfl (by decide +kernel) ⟨Nat.le_of_ble_eq_true rfl, Nat.le_of_ble_eq_true rfl⟩) r709 (by decide) rfl rfl rfl rfl (Nat.le_of_ble_eq_true rfl) dL_law_1882 ⟨by show cells + 0 + 0 ≤ 601024; omega, by show slots + 0 + 0 ≤ 7293034; omega⟩ (fun v9 u2 hv9 => ?_)
  obtain ⟨b9, rfl, hab, hI⟩ := hq9 _ _ _ hv9
  refine g_icmp_eq F 2438 dL_law_1885 (by decide) (fun h1 => ?_) (fun h1 => absurd hab h1)
  refine g_widen (k := cells + 61) (n := slots + 366) (by show cells + 0 ≤ cells + 61; omega) (by show slots + 0 ≤ slots + 366; omega) ?_
  exact kk _ _ hI
set_option maxHeartbeats 2000000 in
set_option maxRecDepth 100000 in
theorem law_c28 (hls : l.stackTraces = false) (F : Fx p room_1 s m args meth c cL_law 7 wsL_law RL D ca (AB B)) (hN : Nc3 s) (hL : va_K D vwCl [(cl, .long)] s) (hX : va_X b L xs s s.heap) (hb : b < s.heap.size) (hbA : ¬ AB B b) (hL9 : L ≤ 3072) (hj : 6 * j + 5 < L) (I : INV M) (hc : cells + 61 ≤ 601024) (hs : slots + 366 ≤ 7293034) (kk : ∀ (o' : Nat → Int64) (M' : Mm), INV M' → G p l e room_1 s m args below meth c Q D ca B (TL cl B o') (AB B) 7 (cells + 61) (slots + 366) M' 2438 [(4, .int (nI (6 * j))), (0, .ref b), (1, .ref (B + 0)), (2, .ref (B + 709)), (3, .ref (B + 717))] []) : G p l e room_1 s m args below meth c Q D ca B (TL cl B o) (AB B) 7 (cells) (slots) M 1890 [(4, .int (nI (6 * j))), (0, .ref b), (1, .ref (B + 0)), (2, .ref (B + 709)), (3, .ref (B + 717))] [] := by
  refine g_aload_n F dL_law_1890 rfl 2 rfl ?_
  refine g_aload_n F dL_law_1891 rfl 1 rfl ?_
  refine g_iload F dL_law_1892 0 rfl ?_
  refine g_iconst F (v := 1) dL_law_1894 (by decide) ?_
  refine g_iadd F dL_law_1895 ?_
  refine g_sld F hX hb hbA (6 * j + 1) (nI_ad (6 * j) 1) (by omega) hL9 dL_law_1896 ?_
  refine g_aload_n F dL_law_1897 rfl 1 rfl ?_
  refine g_iload F dL_law_1898 0 rfl ?_
  refine g_iconst F (v := 2) dL_law_1900 (by decide) ?_
  refine g_iadd F dL_law_1901 ?_
  refine g_sld F hX hb hbA (6 * j + 2) (nI_ad (6 * j) 2) (by omega) hL9 dL_law_1902 ?_
  refine g_bool F 1910 1911 dL_law_1903 (by decide) dL_law_1906 dL_law_1907 (by decide) dL_law_1910 rfl ?_
  refine g_aload_n F dL_law_1911 rfl 4 rfl ?_
  refine g_callW F hN hL (S_toWatch l hls I (xs (6 * j + 1)) (b2i (¬ (xs (6 * j + 2)) = 0))) (vx_cwSW 4 F.1.2.2.2.2 gL_law_L_toWatch rfl rfl rfl (by decide +kernel) ⟨Nat.le_of_ble_eq_true rfl, Nat.le_of_ble_eq_true rfl⟩) rfl rfl rfl (Nat.le_of_ble_eq_true rfl) dL_law_1912 ⟨by show cells + 1 ≤ 601024; omega, by show slots + 6 ≤ 7293034; omega⟩ (fun k9 o9 u9 hu9 => ?_)
  obtain ⟨post9, hM9, hq9⟩ := hu9
  refine g_istore F (lv2 := [(5, _), (4, _), (0, _), (1, _), (2, _), (3, _)]) dL_law_1915 (by decide) rfl ?_
  refine g_aload_n F dL_law_1917 rfl 4 rfl ?_
  refine g_aload_n F dL_law_1918 rfl 2 rfl ?_
  refine g_iload F dL_law_1919 1 rfl ?_
  refine g_iconst F (v := 1) dL_law_1921 (by decide) ?_
  refine g_iadd F dL_law_1922 ?_
  refine g_sld F hX hb hbA (6 * j + 1) (nI_ad (6 * j) 1) (by omega) hL9 dL_law_1923 ?_
  refine g_aload_n F dL_law_1924 rfl 2 rfl ?_
  refine g_iload F dL_law_1925 1 rfl ?_
  refine g_iconst F (v := 2) dL_law_1927 (by decide) ?_
  refine g_iadd F dL_law_1928 ?_
  refine g_sld F hX hb hbA (6 * j + 2) (nI_ad (6 * j) 2) (by omega) hL9 dL_law_1929 ?_
  refine g_bool F 1937 1938 dL_law_1930 (by decide) dL_law_1933 dL_law_1934 (by decide) dL_law_1937 rfl ?_
  refine g_callV F hM9 (cwV 2 F.1.2.2.2.2 gL_law_X9_toWatch rfl rfl rfl (by decide +kernel) ⟨Nat.le_of_ble_eq_true rfl, Nat.le_of_ble_eq_true rfl⟩) r709 (by decide) rfl rfl rfl rfl (Nat.le_of_ble_eq_true rfl) dL_law_1938 ⟨by show cells + 1 + 0 ≤ 601024; omega, by show slots + 6 + 0 ≤ 7293034; omega⟩ (fun v9 u2 hv9 => ?_)
  obtain ⟨b9, rfl, hcc, ho, hI⟩ := hq9 _ _ _ hv9
  refine g_istore F (lv2 := [(6, _), (5, _), (4, _), (0, _), (1, _), (2, _), (3, _)]) dL_law_1941 (by decide) rfl ?_
  refine g_aload_n F dL_law_1943 rfl 5 rfl ?_
  refine g_callV F (kX9_thrown l) (cwV 0 F.1.2.2.2.2 gL_law_X9_thrown rfl rfl rfl (by decide +kernel) ⟨Nat.le_of_ble_eq_true rfl, Nat.le_of_ble_eq_true rfl⟩) r709 (by decide) rfl rfl rfl rfl (Nat.le_of_ble_eq_true rfl) dL_law_1944 ⟨by show cells + 1 + 0 ≤ 601024; omega, by show slots + 6 + 0 ≤ 7293034; omega⟩ (g_det ?_)
  refine g_iload F dL_law_1947 1 rfl ?_
  refine g_icmp_eq F 1954 dL_law_1949 (by decide) (fun h1 => ?_) (fun h1 => absurd hcc h1)
  refine g_iload F dL_law_1954 1 rfl ?_
  refine g_if_ne F 1971 dL_law_1956 (by decide) (fun h1 => ?_) (fun h1 => ?_)
  · refine g_goto F 2438 dL_law_1971 (by decide) ?_
    refine g_lv (lv2 := [(4, .int (nI (6 * j))), (0, .ref b), (1, .ref (B + 0)), (2, .ref (B + 709)), (3, .ref (B + 717))]) [2, 3, 4, 5, 6] rfl ?_
    refine g_widen (k := cells + 61) (n := slots + 366) (by show cells + 1 ≤ cells + 61; omega) (by show slots + 6 ≤ slots + 366; omega) ?_
    exact kk _ _ hI
  · refine g_aload_n F dL_law_1959 rfl 6 rfl ?_
    refine g_iconst F (v := 0) dL_law_1960 (by decide) ?_
    refine g_outld F hL dL_law_1961 ?_
    refine g_iload F dL_law_1962 0 rfl ?_
    refine g_i2l F dL_law_1964 ?_
    refine g_lcmp F dL_law_1965 ?_
    refine g_if_eq F 1971 dL_law_1966 (by decide) (fun h2 => ?_) (fun h2 => absurd (lg_eq0.mpr (ho h1)) h2)
    refine g_goto F 2438 dL_law_1971 (by decide) ?_
    refine g_lv (lv2 := [(4, .int (nI (6 * j))), (0, .ref b), (1, .ref (B + 0)), (2, .ref (B + 709)), (3, .ref (B + 717))]) [2, 3, 4, 5, 6] rfl ?_
    refine g_widen (k := cells + 61) (n := slots + 366) (by show cells + 1 ≤ cells + 61; omega) (by show slots + 6 ≤ slots + 366; omega) ?_
    exact kk _ _ hI
set_option maxHeartbeats 2000000 in
set_option maxRecDepth 100000 in
theorem law_c29 (hls : l.stackTraces = false) (F : Fx p room_1 s m args meth c cL_law 7 wsL_law RL D ca (AB B)) (hN : Nc3 s) (hL : va_K D vwCl [(cl, .long)] s) (hX : va_X b L xs s s.heap) (hb : b < s.heap.size) (hbA : ¬ AB B b) (hL9 : L ≤ 3072) (hj : 6 * j + 5 < L) (I : INV M) (hc : cells + 61 ≤ 601024) (hs : slots + 366 ≤ 7293034) (kk : ∀ (o' : Nat → Int64) (M' : Mm), INV M' → G p l e room_1 s m args below meth c Q D ca B (TL cl B o') (AB B) 7 (cells + 61) (slots + 366) M' 2438 [(4, .int (nI (6 * j))), (0, .ref b), (1, .ref (B + 0)), (2, .ref (B + 709)), (3, .ref (B + 717))] []) : G p l e room_1 s m args below meth c Q D ca B (TL cl B o) (AB B) 7 (cells) (slots) M 1974 [(4, .int (nI (6 * j))), (0, .ref b), (1, .ref (B + 0)), (2, .ref (B + 709)), (3, .ref (B + 717))] [] := by
  refine g_aload_n F dL_law_1974 rfl 2 rfl ?_
  refine g_aload_n F dL_law_1975 rfl 1 rfl ?_
  refine g_iload F dL_law_1976 0 rfl ?_
  refine g_iconst F (v := 1) dL_law_1978 (by decide) ?_
  refine g_iadd F dL_law_1979 ?_
  refine g_sld F hX hb hbA (6 * j + 1) (nI_ad (6 * j) 1) (by omega) hL9 dL_law_1980 ?_
  refine g_aload_n F dL_law_1981 rfl 4 rfl ?_
  refine g_callW F hN hL (S_noticesIn l hls I (xs (6 * j + 1))) (vx_cwSW 3 F.1.2.2.2.2 gL_law_L_noticesIn rfl rfl rfl (by decide +kernel) ⟨Nat.le_of_ble_eq_true rfl, Nat.le_of_ble_eq_true rfl⟩) rfl rfl rfl (Nat.le_of_ble_eq_true rfl) dL_law_1982 ⟨by show cells + 1 ≤ 601024; omega, by show slots + 6 ≤ 7293034; omega⟩ (fun k9 o9 u9 hu9 => ?_)
  obtain ⟨post9, hM9, hq9⟩ := hu9
  refine g_istore F (lv2 := [(5, _), (4, _), (0, _), (1, _), (2, _), (3, _)]) dL_law_1985 (by decide) rfl ?_
  refine g_aload_n F dL_law_1987 rfl 4 rfl ?_
  refine g_aload_n F dL_law_1988 rfl 2 rfl ?_
  refine g_iload F dL_law_1989 1 rfl ?_
  refine g_iconst F (v := 1) dL_law_1991 (by decide) ?_
  refine g_iadd F dL_law_1992 ?_
  refine g_sld F hX hb hbA (6 * j + 1) (nI_ad (6 * j) 1) (by omega) hL9 dL_law_1993 ?_
  refine g_callV F hM9 (cwV 1 F.1.2.2.2.2 gL_law_X9_noticesIn rfl rfl rfl (by decide +kernel) ⟨Nat.le_of_ble_eq_true rfl, Nat.le_of_ble_eq_true rfl⟩) r709 (by decide) rfl rfl rfl rfl (Nat.le_of_ble_eq_true rfl) dL_law_1994 ⟨by show cells + 1 + 0 ≤ 601024; omega, by show slots + 6 + 0 ≤ 7293034; omega⟩ (fun v9 u2 hv9 => ?_)
  obtain ⟨b9, rfl, hcc, ho, hI⟩ := hq9 _ _ _ hv9
  refine g_istore F (lv2 := [(6, _), (5, _), (4, _), (0, _), (1, _), (2, _), (3, _)]) dL_law_1997 (by decide) rfl ?_
  refine g_aload_n F dL_law_1999 rfl 5 rfl ?_
  refine g_callV F (kX9_thrown l) (cwV 0 F.1.2.2.2.2 gL_law_X9_thrown rfl rfl rfl (by decide +kernel) ⟨Nat.le_of_ble_eq_true rfl, Nat.le_of_ble_eq_true rfl⟩) r709 (by decide) rfl rfl rfl rfl (Nat.le_of_ble_eq_true rfl) dL_law_2000 ⟨by show cells + 1 + 0 ≤ 601024; omega, by show slots + 6 + 0 ≤ 7293034; omega⟩ (g_det ?_)
  refine g_iload F dL_law_2003 1 rfl ?_
  refine g_icmp_eq F 2010 dL_law_2005 (by decide) (fun h1 => ?_) (fun h1 => absurd hcc h1)
  refine g_iload F dL_law_2010 1 rfl ?_
  refine g_if_ne F 2027 dL_law_2012 (by decide) (fun h1 => ?_) (fun h1 => ?_)
  · refine g_goto F 2438 dL_law_2027 (by decide) ?_
    refine g_lv (lv2 := [(4, .int (nI (6 * j))), (0, .ref b), (1, .ref (B + 0)), (2, .ref (B + 709)), (3, .ref (B + 717))]) [2, 3, 4, 5, 6] rfl ?_
    refine g_widen (k := cells + 61) (n := slots + 366) (by show cells + 1 ≤ cells + 61; omega) (by show slots + 6 ≤ slots + 366; omega) ?_
    exact kk _ _ hI
  · refine g_aload_n F dL_law_2015 rfl 6 rfl ?_
    refine g_iconst F (v := 0) dL_law_2016 (by decide) ?_
    refine g_outld F hL dL_law_2017 ?_
    refine g_iload F dL_law_2018 0 rfl ?_
    refine g_i2l F dL_law_2020 ?_
    refine g_lcmp F dL_law_2021 ?_
    refine g_if_eq F 2027 dL_law_2022 (by decide) (fun h2 => ?_) (fun h2 => absurd (lg_eq0.mpr (ho h1)) h2)
    refine g_goto F 2438 dL_law_2027 (by decide) ?_
    refine g_lv (lv2 := [(4, .int (nI (6 * j))), (0, .ref b), (1, .ref (B + 0)), (2, .ref (B + 709)), (3, .ref (B + 717))]) [2, 3, 4, 5, 6] rfl ?_
    refine g_widen (k := cells + 61) (n := slots + 366) (by show cells + 1 ≤ cells + 61; omega) (by show slots + 6 ≤ slots + 366; omega) ?_
    exact kk _ _ hI
end LAWC
