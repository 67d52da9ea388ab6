section LAWL
variable {p : Program} {l : Launch} {e : Env} {s : State} {m : MethodId} {args : Array Value} {below : List Frame} {meth : Method} {c : Code} {Q : State → Prop} {D : va_G} {ca : Nat → ClassId} {cl : ClassId} {B b L : Nat} {xs : Nat → Int32}
theorem sw40 (x : Int32) : (∃ v, v < 40 ∧ x = nI v) ∨ (x.toInt < 0 ∨ 39 < x.toInt) := by
  by_cases h0 : x.toInt < 0
  · exact Or.inr (Or.inl h0)
  · by_cases h1 : 39 < x.toInt
    · exact Or.inr (Or.inr h1)
    · refine Or.inl ⟨x.toInt.toNat, by omega, ?_⟩
      have h2 : (nI x.toInt.toNat).toInt = x.toInt := by
        show (Int32.ofNat _).toInt = _
        rw [Int32.toInt_ofNat_of_lt (by omega)]
        omega
      exact (Int32.toInt_inj.mp h2).symm
theorem lim6 {L j : Nat} (hL : L ≤ 3072) (hj : j ≤ 3072) : (nI L - 6 < nI (6 * j) ↔ L < 6 * j + 6) := by
  by_cases h : L < 6
  · have h1 : nI L - 6 < 0 := by
      rcases (show L = 0 ∨ L = 1 ∨ L = 2 ∨ L = 3 ∨ L = 4 ∨ L = 5 by omega) with rfl | rfl | rfl | rfl | rfl | rfl <;> decide
    exact ⟨fun _ => by omega, fun _ => Int32.lt_of_lt_of_le h1 (nI_pos' (by omega))⟩
  · have e : nI L - 6 = nI (L - 6) := by
      have := nI_ad (L - 6) 6
      rw [show L - 6 + 6 = L by omega] at this
      rw [← this]
      show nI (L - 6) + 6 - 6 = _
      exact Int32.add_sub_cancel _ _
    rw [e]
    show Int32.ofNat _ < Int32.ofNat _ ↔ _
    rw [Int32.ofNat_lt_ofNat (by omega) (by omega)]
    omega
set_option maxHeartbeats 4000000 in
set_option maxRecDepth 100000 in
theorem law_loop (hls : l.stackTraces = false) (F : Fx p room_1 s m args meth c cL_law 7 wsL_law RL D ca (AB B)) (hN : Nc3 s) (hL : va_K D vwCl [(cl, .long)] s) (hX : va_X b L xs s s.heap) (hb : b < s.heap.size) (hbA : ¬ AB B b) (hL9 : L ≤ 3072)
    (ke : ∀ (o : Nat → Int64) (M : Mm) (cells slots : Nat), cells ≤ 601024 → slots ≤ 7293034 → ∀ lv, G p l e room_1 s m args below meth c Q D ca B (TL cl B o) (AB B) 7 (cells) (slots) M 2444 lv []) :
    ∀ (n j : Nat) (o : Nat → Int64) (M : Mm), INV M → j ≤ 512 → L < 6 * (j + n) + 6 → G p l e room_1 s m args below meth c Q D ca B (TL cl B o) (AB B) 7 (718 + 61 * j) (37350 + 366 * j) M 23 [(4, .int (nI (6 * j))), (0, .ref b), (1, .ref (B + 0)), (2, .ref (B + 709)), (3, .ref (B + 717))] [] := by
  have head : ∀ (j : Nat) (o : Nat → Int64) (M : Mm), j ≤ 512 → (6 * j + 6 ≤ L → G p l e room_1 s m args below meth c Q D ca B (TL cl B o) (AB B) 7 (718 + 61 * j) (37350 + 366 * j) M 33 [(4, .int (nI (6 * j))), (0, .ref b), (1, .ref (B + 0)), (2, .ref (B + 709)), (3, .ref (B + 717))] []) → G p l e room_1 s m args below meth c Q D ca B (TL cl B o) (AB B) 7 (718 + 61 * j) (37350 + 366 * j) M 23 [(4, .int (nI (6 * j))), (0, .ref b), (1, .ref (B + 0)), (2, .ref (B + 709)), (3, .ref (B + 717))] [] := by
    intro j o M hj kb
    refine g_iload F dL_law_23 0 rfl ?_
    refine g_aload_n F dL_law_25 rfl 1 rfl ?_
    refine g_slen F hX hb hbA dL_law_26 ?_
    refine g_bipush F (v := 6) dL_law_27 (by decide) ?_
    refine g_isub F dL_law_29 ?_
    refine g_icmp_gt F 2444 dL_law_30 (by decide) (fun h => ?_) (fun h => ?_)
    · exact ke o M _ _ (by omega) (by omega) _
    · exact kb (by have := mt (lim6 hL9 (by omega)).mpr h; omega)
  intro n
  induction n with
  | zero => exact fun j o M I hj hn => head j o M hj (fun h => absurd h (by omega))
  | succ n ih =>
    intro j o M I hj hn
    refine head j o M hj (fun h6 => ?_)
    have kk : ∀ (o' : Nat → Int64) (M' : Mm), INV M' → G p l e room_1 s m args below meth c Q D ca B (TL cl B o') (AB B) 7 (718 + 61 * j + 61) (37350 + 366 * j + 366) M' 2438 [(4, .int (nI (6 * j))), (0, .ref b), (1, .ref (B + 0)), (2, .ref (B + 709)), (3, .ref (B + 717))] [] := by
      intro o' M' I'
      refine g_iinc F (lv2 := [(4, _), (0, _), (1, _), (2, _), (3, _)]) dL_law_2438 0 rfl (nI_ad (6 * j) 6) (by decide) rfl ?_
      refine g_goto F 23 dL_law_2441 (by decide) ?_
      refine g_widen (k := 718 + 61 * (j + 1)) (n := 37350 + 366 * (j + 1)) (by omega) (by omega) ?_
      exact ih (j + 1) o' M' I' (by omega) (by omega)
    refine g_aload_n F dL_law_33 rfl 1 rfl ?_
    refine g_iload F dL_law_34 0 rfl ?_
    refine g_sld F hX hb hbA (6 * j) rfl (by omega) hL9 dL_law_36 ?_
    refine g_bipush F (v := 63) dL_law_37 (by decide) ?_
    refine g_iand F dL_law_39 ?_
    rcases sw40 (xs (6 * j) &&& 63) with ⟨v, hv, hx⟩ | hx
    · refine g_top hx ?_
      rcases (show v = 0 ∨ v = 1 ∨ v = 2 ∨ v = 3 ∨ v = 4 ∨ v = 5 ∨ v = 6 ∨ v = 7 ∨ v = 8 ∨ v = 9 ∨ v = 10 ∨ v = 11 ∨ v = 12 ∨ v = 13 ∨ v = 14 ∨ v = 15 ∨ v = 16 ∨ v = 17 ∨ v = 18 ∨ v = 19 ∨ v = 20 ∨ v = 21 ∨ v = 22 ∨ v = 23 ∨ v = 24 ∨ v = 25 ∨ v = 26 ∨ v = 27 ∨ v = 28 ∨ v = 29 ∨ v = 30 ∨ v = 31 ∨ v = 32 ∨ v = 33 ∨ v = 34 ∨ v = 35 ∨ v = 36 ∨ v = 37 ∨ v = 38 ∨ v = 39 by omega) with rfl | rfl | rfl | rfl | rfl | rfl | rfl | rfl | rfl | rfl | rfl | rfl | rfl | rfl | rfl | rfl | rfl | rfl | rfl | rfl | rfl | rfl | rfl | rfl | rfl | rfl | rfl | rfl | rfl | rfl | rfl | rfl | rfl | rfl | rfl | rfl | rfl | rfl | rfl | rfl
      · refine g_tableIn (off := 176) F 216 dL_law_40 (by decide +kernel) (by decide +kernel) (by decide +kernel) (by decide) ?_
        exact law_c0 hls F hN hL hX hb hbA hL9 (by omega) I (by omega) (by omega) kk
      · refine g_tableIn (off := 280) F 320 dL_law_40 (by decide +kernel) (by decide +kernel) (by decide +kernel) (by decide) ?_
        exact law_c1 hls F hN hL hX hb hbA hL9 (by omega) I (by omega) (by omega) kk
      · refine g_tableIn (off := 348) F 388 dL_law_40 (by decide +kernel) (by decide +kernel) (by decide +kernel) (by decide) ?_
        exact law_c2 hls F hN hL hX hb hbA hL9 (by omega) I (by omega) (by omega) kk
      · refine g_tableIn (off := 416) F 456 dL_law_40 (by decide +kernel) (by decide +kernel) (by decide +kernel) (by decide) ?_
        exact law_c3 hls F hN hL hX hb hbA hL9 (by omega) I (by omega) (by omega) kk
      · refine g_tableIn (off := 484) F 524 dL_law_40 (by decide +kernel) (by decide +kernel) (by decide +kernel) (by decide) ?_
        exact law_c4 hls F hN hL hX hb hbA hL9 (by omega) I (by omega) (by omega) kk
      · refine g_tableIn (off := 552) F 592 dL_law_40 (by decide +kernel) (by decide +kernel) (by decide +kernel) (by decide) ?_
        exact law_c5 hls F hN hL hX hb hbA hL9 (by omega) I (by omega) (by omega) kk
      · refine g_tableIn (off := 608) F 648 dL_law_40 (by decide +kernel) (by decide +kernel) (by decide +kernel) (by decide) ?_
        exact law_c6 hls F hN hL hX hb hbA hL9 (by omega) I (by omega) (by omega) kk
      · refine g_tableIn (off := 671) F 711 dL_law_40 (by decide +kernel) (by decide +kernel) (by decide +kernel) (by decide) ?_
        exact law_c7 hls F hN hL hX hb hbA hL9 (by omega) I (by omega) (by omega) kk
      · refine g_tableIn (off := 715) F 755 dL_law_40 (by decide +kernel) (by decide +kernel) (by decide +kernel) (by decide) ?_
        exact law_c8 hls F hN hL hX hb hbA hL9 (by omega) I (by omega) (by omega) kk
      · refine g_tableIn (off := 783) F 823 dL_law_40 (by decide +kernel) (by decide +kernel) (by decide +kernel) (by decide) ?_
        exact law_c9 hls F hN hL hX hb hbA hL9 (by omega) I (by omega) (by omega) kk
      · refine g_tableIn (off := 851) F 891 dL_law_40 (by decide +kernel) (by decide +kernel) (by decide +kernel) (by decide) ?_
        exact law_c10 hls F hN hL hX hb hbA hL9 (by omega) I (by omega) (by omega) kk
      · refine g_tableIn (off := 959) F 999 dL_law_40 (by decide +kernel) (by decide +kernel) (by decide +kernel) (by decide) ?_
        exact law_c11 hls F hN hL hX hb hbA hL9 (by omega) I (by omega) (by omega) kk
      · refine g_tableIn (off := 1015) F 1055 dL_law_40 (by decide +kernel) (by decide +kernel) (by decide +kernel) (by decide) ?_
        exact law_c12 hls F hN hL hX hb hbA hL9 (by omega) I (by omega) (by omega) kk
      · refine g_tableIn (off := 1028) F 1068 dL_law_40 (by decide +kernel) (by decide +kernel) (by decide +kernel) (by decide) ?_
        exact law_c13 hls F hN hL hX hb hbA hL9 (by omega) I (by omega) (by omega) kk
      · refine g_tableIn (off := 1084) F 1124 dL_law_40 (by decide +kernel) (by decide +kernel) (by decide +kernel) (by decide) ?_
        exact law_c14 hls F hN hL hX hb hbA hL9 (by omega) I (by omega) (by omega) kk
      · refine g_tableIn (off := 1140) F 1180 dL_law_40 (by decide +kernel) (by decide +kernel) (by decide +kernel) (by decide) ?_
        exact law_c15 hls F hN hL hX hb hbA hL9 (by omega) I (by omega) (by omega) kk
      · refine g_tableIn (off := 1208) F 1248 dL_law_40 (by decide +kernel) (by decide +kernel) (by decide +kernel) (by decide) ?_
        exact law_c16 hls F hN hL hX hb hbA hL9 (by omega) I (by omega) (by omega) kk
      · refine g_tableIn (off := 1276) F 1316 dL_law_40 (by decide +kernel) (by decide +kernel) (by decide +kernel) (by decide) ?_
        exact law_c17 hls F hN hL hX hb hbA hL9 (by omega) I (by omega) (by omega) kk
      · refine g_tableIn (off := 1344) F 1384 dL_law_40 (by decide +kernel) (by decide +kernel) (by decide +kernel) (by decide) ?_
        exact law_c18 hls F hN hL hX hb hbA hL9 (by omega) I (by omega) (by omega) kk
      · refine g_tableIn (off := 1440) F 1480 dL_law_40 (by decide +kernel) (by decide +kernel) (by decide +kernel) (by decide) ?_
        exact law_c19 hls F hN hL hX hb hbA hL9 (by omega) I (by omega) (by omega) kk
      · refine g_tableIn (off := 1496) F 1536 dL_law_40 (by decide +kernel) (by decide +kernel) (by decide +kernel) (by decide) ?_
        exact law_c20 hls F hN hL hX hb hbA hL9 (by omega) I (by omega) (by omega) kk
      · refine g_tableIn (off := 1509) F 1549 dL_law_40 (by decide +kernel) (by decide +kernel) (by decide +kernel) (by decide) ?_
        exact law_c21 hls F hN hL hX hb hbA hL9 (by omega) I (by omega) (by omega) kk
      · refine g_tableIn (off := 1522) F 1562 dL_law_40 (by decide +kernel) (by decide +kernel) (by decide +kernel) (by decide) ?_
        exact law_c22 hls F hN hL hX hb hbA hL9 (by omega) I (by omega) (by omega) kk
      · refine g_tableIn (off := 1578) F 1618 dL_law_40 (by decide +kernel) (by decide +kernel) (by decide +kernel) (by decide) ?_
        exact law_c23 hls F hN hL hX hb hbA hL9 (by omega) I (by omega) (by omega) kk
      · refine g_tableIn (off := 1634) F 1674 dL_law_40 (by decide +kernel) (by decide +kernel) (by decide +kernel) (by decide) ?_
        exact law_c24 hls F hN hL hX hb hbA hL9 (by omega) I (by omega) (by omega) kk
      · refine g_tableIn (off := 1697) F 1737 dL_law_40 (by decide +kernel) (by decide +kernel) (by decide +kernel) (by decide) ?_
        exact law_c25 hls F hN hL hX hb hbA hL9 (by omega) I (by omega) (by omega) kk
      · refine g_tableIn (off := 1753) F 1793 dL_law_40 (by decide +kernel) (by decide +kernel) (by decide +kernel) (by decide) ?_
        exact law_c26 hls F hN hL hX hb hbA hL9 (by omega) I (by omega) (by omega) kk
      · refine g_tableIn (off := 1837) F 1877 dL_law_40 (by decide +kernel) (by decide +kernel) (by decide +kernel) (by decide) ?_
        exact law_c27 hls F hN hL hX hb hbA hL9 (by omega) I (by omega) (by omega) kk
      · refine g_tableIn (off := 1850) F 1890 dL_law_40 (by decide +kernel) (by decide +kernel) (by decide +kernel) (by decide) ?_
        exact law_c28 hls F hN hL hX hb hbA hL9 (by omega) I (by omega) (by omega) kk
      · refine g_tableIn (off := 1934) F 1974 dL_law_40 (by decide +kernel) (by decide +kernel) (by decide +kernel) (by decide) ?_
        exact law_c29 hls F hN hL hX hb hbA hL9 (by omega) I (by omega) (by omega) kk
      · refine g_tableIn (off := 1990) F 2030 dL_law_40 (by decide +kernel) (by decide +kernel) (by decide +kernel) (by decide) ?_
        exact law_c30 hls F hN hL hX hb hbA hL9 (by omega) I (by omega) (by omega) kk
      · refine g_tableIn (off := 2046) F 2086 dL_law_40 (by decide +kernel) (by decide +kernel) (by decide +kernel) (by decide) ?_
        exact law_c31 hls F hN hL hX hb hbA hL9 (by omega) I (by omega) (by omega) kk
      · refine g_tableIn (off := 2102) F 2142 dL_law_40 (by decide +kernel) (by decide +kernel) (by decide +kernel) (by decide) ?_
        exact law_c32 hls F hN hL hX hb hbA hL9 (by omega) I (by omega) (by omega) kk
      · refine g_tableIn (off := 2190) F 2230 dL_law_40 (by decide +kernel) (by decide +kernel) (by decide +kernel) (by decide) ?_
        exact law_c33 hls F hN hL hX hb hbA hL9 (by omega) I (by omega) (by omega) kk
      · refine g_tableIn (off := 2203) F 2243 dL_law_40 (by decide +kernel) (by decide +kernel) (by decide +kernel) (by decide) ?_
        exact law_c34 hls F hN hL hX hb hbA hL9 (by omega) I (by omega) (by omega) kk
      · refine g_tableIn (off := 2216) F 2256 dL_law_40 (by decide +kernel) (by decide +kernel) (by decide +kernel) (by decide) ?_
        exact law_c35 hls F hN hL hX hb hbA hL9 (by omega) I (by omega) (by omega) kk
      · refine g_tableIn (off := 2229) F 2269 dL_law_40 (by decide +kernel) (by decide +kernel) (by decide +kernel) (by decide) ?_
        exact law_c36 hls F hN hL hX hb hbA hL9 (by omega) I (by omega) (by omega) kk
      · refine g_tableIn (off := 2273) F 2313 dL_law_40 (by decide +kernel) (by decide +kernel) (by decide +kernel) (by decide) ?_
        exact law_c37 hls F hN hL hX hb hbA hL9 (by omega) I (by omega) (by omega) kk
      · refine g_tableIn (off := 2286) F 2326 dL_law_40 (by decide +kernel) (by decide +kernel) (by decide +kernel) (by decide) ?_
        exact law_c38 hls F hN hL hX hb hbA hL9 (by omega) I (by omega) (by omega) kk
      · refine g_tableIn (off := 2342) F 2382 dL_law_40 (by decide +kernel) (by decide +kernel) (by decide +kernel) (by decide) ?_
        exact law_c39 hls F hN hL hX hb hbA hL9 (by omega) I (by omega) (by omega) kk
    · refine g_tableOut F 2438 dL_law_40 hx (by decide) ?_
      exact g_widen (k := 718 + 61 * j + 61) (n := 37350 + 366 * j + 366) (by omega) (by omega) (kk o M I)
end LAWL
