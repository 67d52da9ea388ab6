theorem lg_eq0 {x y : Int64} : lg_cmp x y = 0 ↔ x = y := by
  unfold lg_cmp
  by_cases h1 : y < x
  · have h2 : ¬ x = y := fun z => by subst z; exact Int64.lt_irrefl h1
    simp [h1, h2]
  · by_cases h2 : x = y
    · subst h2; simp
    · simp [h1, h2]
/-! the law's body -/
theorem goR_hi {f : Nat → Int32} {j : Nat} (hj : 172 ≤ j) (h : ¬ goR f 74 = 0) : goR f j = f j := by
  by_cases hd : upd f 74 (f 74 + 1) 74 = 96
  · refine absurd ?_ h
    unfold goR
    rw [if_pos hd]; unfold fgR
    rw [if_neg (by omega), upd_ne _ _ (by omega), upd_at]
  · unfold goR
    rw [if_neg hd]; exact upd_ne _ _ (by omega)
theorem RD_eq {f : Nat → Int32} {t p n t2 : Nat} (hv : RV f t p n) (z : RZ f t n) (ac : AC f n) (h74 : tkR f t p 74 = nI t2) (h : ¬ nI t2 ≤ 0) : tkR f t p (172 + 96 * (t % 8) + t) = RDF f t (t % 8) 3 := by
  have ht := hv.1
  have hv3 : RV (f3R f t) t p n := RV_ti (by omega) (RV_wa (by omega) (RV_nd hv))
  have ac3 : AC (f3R f t) n := AC_of hv.2.2.2.2.2.1 (fun j hj => f3_lo (by omega)) ac
  obtain ⟨j, h1, h2, h3⟩ := gn_run hv3 ac3 8 (by omega)
  have e : tkR f t p = goR (gnI (f3R f t) t p 8) := rfl
  rw [e] at h74 ⊢
  rw [goR_hi (by omega) (fun z9 => h (by rw [← h74, z9]; exact Int32.le_refl 0)), h3 _ (by omega), f3_rd hv.2.1 ht hv.2.2.2.2.2.2.2.2 (fun d hd => z.2.2.1 d hd t (Nat.le_refl t) ht) (show t % 8 < 8 by omega) ht, if_pos rfl]
/-- what holds between the law's turns -/
def INVq (M : Mm) (f : Nat → Int32) (t p n h : Nat) : Prop := RV f t p n ∧ Rl M 1 f t n ∧ RZ f t n ∧ AC f n ∧ GB f ∧ LAW (M 709) (M 710) (M 711) (M 712) (M 713) (M 714) f t n ∧ HQ M h ∧ SLQ M
def INVp (M : Mm) : Prop := ∃ f t p n h, INVq M f t p n h
def STg (N M : Mm) (f2 : Nat → Int32) (t n : Nat) : Prop := Rl N 1 f2 t n ∧ (∃ h, HQ N h) ∧ SLQ N ∧ ∀ x, 709 ≤ x → N x = M x
theorem ST_LAW {N M : Mm} {f2 f : Nat → Int32} {t n : Nat} (hST : STg N M f2 t n) (L : LAW (M 709) (M 710) (M 711) (M 712) (M 713) (M 714) f t n) : LAW (N 709) (N 710) (N 711) (N 712) (N 713) (N 714) f t n := by
  obtain ⟨-, -, -, e⟩ := hST
  rw [e 709 (by omega), e 710 (by omega), e 711 (by omega), e 712 (by omega), e 713 (by omega), e 714 (by omega)]; exact L
theorem lw_Rl {N : Mm} {f2 : Nat → Int32} {t n : Nat} {c g q r m w : Nat → Int32} (ht : t < 96) (hn : n ≤ 20) (h : Rl N 1 f2 t n) : Rl (lwM N c g q r m w) 1 f2 t n := Rl_of (by omega) hn (fun x hx => lwM_o _ _ _ _ _ _ _ (by omega)) (fun _ _ => rfl) h
theorem lw_HQ {N : Mm} {h : Nat} {c g q r m w : Nat → Int32} (H : HQ N h) : HQ (lwM N c g q r m w) h := H
theorem lw_SLQ {N : Mm} {c g q r m w : Nat → Int32} (S : SLQ N) : SLQ (lwM N c g q r m w) := fun s hs => by rw [lwM_o _ _ _ _ _ _ _ (by omega)]; exact S s hs
theorem ST_INV {N M : Mm} {f2 : Nat → Int32} {t p n : Nat} {c g q r m w : Nat → Int32} (hST : STg N M f2 t n) (hv : RV f2 t p n) (z : RZ f2 t n) (ac : AC f2 n) (gb : GB f2) (L : LAW c g q r m w f2 t n) : INVp (lwM N c g q r m w) := by
  obtain ⟨h1, ⟨h, h2⟩, h3, -⟩ := hST
  exact ⟨f2, t, p, n, h, hv, lw_Rl hv.1 hv.2.2.2.2.2.1 h1, z, ac, gb, L, lw_HQ h2, lw_SLQ h3⟩
theorem ST_FR {M U : Mm} {f2 : Nat → Int32} {t n h : Nat} (H : HQ M h) (S : SLQ M) (F : FR M h U) (hh : Rl U 1 f2 t n) : STg U M f2 t n := ⟨hh, ⟨_, FR_HQ H F⟩, FR_SLQ H S F, fun x hx => FR_law H F hx⟩
theorem le_100 {x : Int32} (h : -100 < x) : -100 ≤ x := Int32.le_iff_toInt_le.mpr (by have := Int32.lt_iff_toInt_lt.mp h; omega)
theorem le_101 {x : Int32} (h : x < -100) : x ≤ -100 := Int32.le_iff_toInt_le.mpr (by have := Int32.lt_iff_toInt_lt.mp h; omega)

section LAWB
variable {pp : Program} {l : Launch} {ee : Env} {ss : State} {mm : MethodId} {aa : Array Value} {bb : List Frame} {me : Method} {c9 : Code} {QQ : State → Prop} {DD : va_G} {ca : Nat → ClassId} {B b L9 : Nat} {xs : Nat → Int32}

set_option maxHeartbeats 8000000 in
set_option maxRecDepth 100000 in
theorem law_tail (hls : l.stackTraces = false) (F : Fx pp room_1 ss mm aa me c9 cL_law 21 wsL_law RL DD ca (AB B)) {M : Mm} {f : Nat → Int32} {t p n h j κ zz cs sl : Nat} {x y a2 b2 : Int32} (I : INVq M f t p n h) (hV : VA κ x y n) (hz : zz < 200) (hcs : cs + 8000 ≤ 600086) (hsl : sl + 48000 ≤ 7301442) (kk : ∀ (M2 : Mm), INVp M2 → G pp l ee room_1 ss mm aa bb me c9 QQ DD ca B ([] : va_W) (AB B) 21 (cs + 8000) (sl + 48000) M2 685 [(8, .int (nI j)), (0, .ref b), (1, .ref (B + 0)), (2, .ref (B + 709)), (3, .ref (B + 710)), (4, .ref (B + 711)), (5, .ref (B + 712)), (6, .ref (B + 713)), (7, .ref (B + 714))] []) : G pp l ee room_1 ss mm aa bb me c9 QQ DD ca B ([] : va_W) (AB B) 21 cs sl M 538 [(14, .int (nI zz)), (13, .int y), (12, .int x), (11, .int (nI κ)), (10, .int b2), (9, .int a2), (8, .int (nI j)), (0, .ref b), (1, .ref (B + 0)), (2, .ref (B + 709)), (3, .ref (B + 710)), (4, .ref (B + 711)), (5, .ref (B + 712)), (6, .ref (B + 713)), (7, .ref (B + 714))] [] := by
  obtain ⟨hv, hh, z, ac, gb, hL, H, SL⟩ := I
  have ht := hv.1
  have hn := hv.2.2.2.2.2.1
  refine g_aload_n F dL_law_538 rfl 8 rfl ?_
  refine g_callS F (kL_told l hls hv hh z ac) (va_cwS 1 F.1.2.2.2.2 gL_law_L_told rfl rfl rfl (by decide +kernel) ⟨Nat.le_of_ble_eq_true rfl, Nat.le_of_ble_eq_true rfl⟩) rfl rfl rfl (Nat.le_of_ble_eq_true rfl) dL_law_539 ⟨by show cs + 500 ≤ 600086; omega, by show sl + 3000 ≤ 7301442; omega⟩ (g_det ?_)
  refine g_lstore F (lv2 := [(15, _), (14, _), (13, _), (12, _), (11, _), (10, _), (9, _), (8, _), (0, _), (1, _), (2, _), (3, _), (4, _), (5, _), (6, _), (7, _)]) dL_law_542 (by decide) rfl ?_
  refine g_aload_n F dL_law_544 rfl 9 rfl ?_
  refine g_iload F dL_law_545 4 rfl ?_
  refine g_iload F dL_law_547 3 rfl ?_
  refine g_iload F dL_law_549 2 rfl ?_
  refine g_iload F dL_law_551 1 rfl ?_
  refine g_callS F (kL_call l hls (κ := κ) (x := x) (y := y) (zz := zz) hv hh z ac gb H.1 H.2.1 H.2.2 hV hz) (va_cwS 5 F.1.2.2.2.2 gL_law_L_call rfl rfl rfl (by decide +kernel) ⟨Nat.le_of_ble_eq_true rfl, Nat.le_of_ble_eq_true rfl⟩) rfl rfl rfl (Nat.le_of_ble_eq_true rfl) dL_law_553 ⟨by show cs + 500 + 11 ≤ 600086; omega, by show sl + 3000 + 66 ≤ 7301442; omega⟩ (fun v9 u9 h9 => ?_)
  rcases h9 with ⟨r0, f2, p2, rfl, hr0, hC, hv2, hh2, z2, ac2, gb2, hF⟩ | ⟨r0, rfl, hr0, eu9, hR⟩
  · refine g_istore F (lv2 := [(17, _), (15, _), (14, _), (13, _), (12, _), (11, _), (10, _), (9, _), (8, _), (0, _), (1, _), (2, _), (3, _), (4, _), (5, _), (6, _), (7, _)]) dL_law_556 (by decide) rfl ?_
    refine g_iload F dL_law_558 0 rfl ?_
    refine g_bipush F (v := -100) dL_law_560 (by decide +kernel) ?_
    refine g_icmp_ge F 577 dL_law_562 (by decide) (fun h1 => ?_) (fun h1 => ?_)
    · refine g_iload F dL_law_577 0 rfl ?_
      refine g_bipush F (v := -100) dL_law_579 (by decide +kernel) ?_
      refine g_icmp_le F 646 dL_law_581 (by decide) (fun h1 => ?_) (fun h1 => ?_)
      · exact absurd hr0 (Int32.not_lt.mpr h1)
      · refine g_iload F dL_law_584 7 rfl ?_
        refine g_bipush F (v := 24) dL_law_586 (by decide +kernel) ?_
        refine g_ishr F dL_law_588 ?_
        refine g_iconst F (v := 3) dL_law_589 (by decide) ?_
        refine g_iand F dL_law_590 ?_
        refine g_if_ne F 646 dL_law_591 (by decide) (fun h1 => ?_) (fun h1 => ?_)
        · have hST := ST_FR H SL hF hh2
          have hO9 : CH κ x y zz f t n r0 f2 ∧ RZ f2 t n ∨ RF κ x f n r0 ∧ f2 = f := Or.inl ⟨hC, z2⟩
          refine g_mem (lwM_id _).symm ?_
          refine g_iload F dL_law_646 0 rfl ?_
          refine g_iload F dL_law_648 5 rfl ?_
          refine g_iload F dL_law_650 4 rfl ?_
          refine g_iload F dL_law_652 3 rfl ?_
          refine g_iload F dL_law_654 2 rfl ?_
          refine g_aload_n F dL_law_656 rfl 11 rfl ?_
          refine g_aload_n F dL_law_657 rfl 12 rfl ?_
          refine g_aload F dL_law_658 13 rfl ?_
          refine g_aload F dL_law_660 16 rfl ?_
          refine g_callS F (kL_sets l hv (ST_LAW hST hL) hz hO9) (va_cwS 8 F.1.2.2.2.2 gL_law_L_sets rfl rfl rfl (by decide +kernel) ⟨Nat.le_of_ble_eq_true rfl, Nat.le_of_ble_eq_true rfl⟩) rfl rfl rfl (Nat.le_of_ble_eq_true rfl) dL_law_662 ⟨by show cs + 500 + 11 + 0 ≤ 600086; omega, by show sl + 3000 + 66 + 0 ≤ 7301442; omega⟩ (fun v9 u9 h9 => ?_)
          obtain ⟨rfl, cX, gX, qX, wX, eX, LX⟩ := h9
          obtain rfl := eX.symm
          refine g_icmp_ne F 683 dL_law_665 (by decide) (fun h1 => ?_) (fun h1 => ?_)
          · exact absurd rfl h1
          · refine g_aload_n F dL_law_668 rfl 10 rfl ?_
            refine g_aload_n F dL_law_669 rfl 11 rfl ?_
            refine g_aload_n F dL_law_670 rfl 12 rfl ?_
            refine g_aload F dL_law_671 13 rfl ?_
            refine g_aload F dL_law_673 15 rfl ?_
            refine g_aload F dL_law_675 16 rfl ?_
            refine g_callS F (kL_isSo l hls hv2 (lw_Rl hv2.1 hv2.2.2.2.2.2.1 hST.1) z2 ac2 LX) (va_cwS 6 F.1.2.2.2.2 gL_law_L_isSo rfl rfl rfl (by decide +kernel) ⟨Nat.le_of_ble_eq_true rfl, Nat.le_of_ble_eq_true rfl⟩) rfl rfl rfl (Nat.le_of_ble_eq_true rfl) dL_law_677 ⟨by show cs + 500 + 11 + 0 + 800 ≤ 600086; omega, by show sl + 3000 + 66 + 0 + 4800 ≤ 7301442; omega⟩ (g_det ?_)
            refine g_if_ne F 685 dL_law_680 (by decide) (fun h1 => ?_) (fun h1 => ?_)
            · refine g_lv (lv2 := [(8, .int (nI j)), (0, .ref b), (1, .ref (B + 0)), (2, .ref (B + 709)), (3, .ref (B + 710)), (4, .ref (B + 711)), (5, .ref (B + 712)), (6, .ref (B + 713)), (7, .ref (B + 714))]) [8, 9, 10, 11, 12, 13, 14, 15, 16] rfl ?_
              refine g_widen (k := cs + 8000) (n := sl + 48000) (by show cs + 500 + 11 + 0 + 800 ≤ cs + 8000; omega) (by show sl + 3000 + 66 + 0 + 4800 ≤ sl + 48000; omega) ?_
              exact kk _ (ST_INV hST hv2 z2 ac2 gb2 LX)
            · exact absurd h1 (by decide)
        · refine g_aload_n F dL_law_594 rfl 10 rfl ?_
          refine g_callS F (kL_told l hls hv2 hh2 z2 ac2) (va_cwS 1 F.1.2.2.2.2 gL_law_L_told rfl rfl rfl (by decide +kernel) ⟨Nat.le_of_ble_eq_true rfl, Nat.le_of_ble_eq_true rfl⟩) rfl rfl rfl (Nat.le_of_ble_eq_true rfl) dL_law_595 ⟨by show cs + 500 + 11 + 500 ≤ 600086; omega, by show sl + 3000 + 66 + 3000 ≤ 7301442; omega⟩ (g_det ?_)
          refine g_lstore F (lv2 := [(18, _), (17, _), (15, _), (14, _), (13, _), (12, _), (11, _), (10, _), (9, _), (8, _), (0, _), (1, _), (2, _), (3, _), (4, _), (5, _), (6, _), (7, _)]) dL_law_598 (by decide) rfl ?_
          refine g_aload_n F dL_law_600 rfl 11 rfl ?_
          refine g_iconst F (v := 1) dL_law_601 (by decide) ?_
          refine g_callSW F (C_save l hls hv2 hh2) (vx_cwSW 2 F.1.2.2.2.2 gL_law_L_save rfl rfl rfl (by decide +kernel) ⟨Nat.le_of_ble_eq_true rfl, Nat.le_of_ble_eq_true rfl⟩) rfl rfl rfl (Nat.le_of_ble_eq_true rfl) dL_law_602 ⟨by show cs + 500 + 11 + 500 + 1 ≤ 600086; omega, by show sl + 3000 + 66 + 3000 + 6 ≤ 7301442; omega⟩ (g_det ?_)
          refine g_istore F (lv2 := [(20, _), (18, _), (17, _), (15, _), (14, _), (13, _), (12, _), (11, _), (10, _), (9, _), (8, _), (0, _), (1, _), (2, _), (3, _), (4, _), (5, _), (6, _), (7, _)]) dL_law_605 (by decide) rfl ?_
          refine g_aload_n F dL_law_607 rfl 12 rfl ?_
          refine g_callSW F (C_undo l hls (sv_HQ (FR_HQ H hF)) (by omega)) (vx_cwSW 1 F.1.2.2.2.2 gL_law_L_undo rfl rfl rfl (by decide +kernel) ⟨Nat.le_of_ble_eq_true rfl, Nat.le_of_ble_eq_true rfl⟩) rfl rfl rfl (Nat.le_of_ble_eq_true rfl) dL_law_608 ⟨by show cs + 500 + 11 + 500 + 1 + 1 ≤ 600086; omega, by show sl + 3000 + 66 + 3000 + 6 + 6 ≤ 7301442; omega⟩ (g_det ?_)
          refine g_if_lt F 644 dL_law_611 (by decide) (fun h2 => ?_) (fun h2 => ?_)
          · exact absurd h2 (nI_pos (by omega))
          · have e5 : u9 1 5 = nI n := hh2.2.2.2.2.2.2.1.1.trans hv2.2.2.2.2.2.2.1
            have BA := back_all H SL hF hn e5
            have hhW : Rl (gbM (svM u9) (min h 5 + 1) 1) 1 f t n := Rl_of (by omega) hn (fun x hx => undone H hF hx) (fun _ _ => rfl) hh
            have hhY : Rl (rsM (gbM (svM u9) (min h 5 + 1) 1) (min h 5)) 1 f2 t n := Rl_of (by omega) hn (fun x hx => restored H hF hx) (fun _ _ => rfl) hh2
            refine g_aload_n F dL_law_614 rfl 12 rfl ?_
            refine g_callS F (kL_told l hls hv hhW z ac) (va_cwS 1 F.1.2.2.2.2 gL_law_L_told rfl rfl rfl (by decide +kernel) ⟨Nat.le_of_ble_eq_true rfl, Nat.le_of_ble_eq_true rfl⟩) rfl rfl rfl (Nat.le_of_ble_eq_true rfl) dL_law_615 ⟨by show cs + 500 + 11 + 500 + 1 + 1 + 500 ≤ 600086; omega, by show sl + 3000 + 66 + 3000 + 6 + 6 + 3000 ≤ 7301442; omega⟩ (g_det ?_)
            refine g_lload F dL_law_618 3 rfl ?_
            refine g_lcmp F dL_law_620 ?_
            refine g_if_ne F 644 dL_law_621 (by decide) (fun h3 => ?_) (fun h3 => ?_)
            · exact absurd (lg_eq0.mpr rfl) h3
            · refine g_aload_n F dL_law_624 rfl 12 rfl ?_
              refine g_iconst F (v := 1) dL_law_625 (by decide) ?_
              refine g_callSW F (C_restore l hls BA.1 BA.2.1 BA.2.2.1 hv2 hhY) (vx_cwSW 2 F.1.2.2.2.2 gL_law_L_restore rfl rfl rfl (by decide +kernel) ⟨Nat.le_of_ble_eq_true rfl, Nat.le_of_ble_eq_true rfl⟩) rfl rfl rfl (Nat.le_of_ble_eq_true rfl) dL_law_626 ⟨by show cs + 500 + 11 + 500 + 1 + 1 + 500 + 2 ≤ 600086; omega, by show sl + 3000 + 66 + 3000 + 6 + 6 + 3000 + 12 ≤ 7301442; omega⟩ (g_det ?_)
              refine g_iload F dL_law_629 0 rfl ?_
              refine g_icmp_ne F 644 dL_law_631 (by decide) (fun h4 => ?_) (fun h4 => ?_)
              · exact absurd rfl h4
              · refine g_aload_n F dL_law_634 rfl 12 rfl ?_
                refine g_callS F (kL_told l hls hv2 hhY z2 ac2) (va_cwS 1 F.1.2.2.2.2 gL_law_L_told rfl rfl rfl (by decide +kernel) ⟨Nat.le_of_ble_eq_true rfl, Nat.le_of_ble_eq_true rfl⟩) rfl rfl rfl (Nat.le_of_ble_eq_true rfl) dL_law_635 ⟨by show cs + 500 + 11 + 500 + 1 + 1 + 500 + 2 + 500 ≤ 600086; omega, by show sl + 3000 + 66 + 3000 + 6 + 6 + 3000 + 12 + 3000 ≤ 7301442; omega⟩ (g_det ?_)
                refine g_lload F dL_law_638 1 rfl ?_
                refine g_lcmp F dL_law_640 ?_
                refine g_if_eq F 646 dL_law_641 (by decide) (fun h5 => ?_) (fun h5 => ?_)
                · have hST : STg (rsM (gbM (svM u9) (min h 5 + 1) 1) (min h 5)) M f2 t n := ⟨hhY, ⟨_, BA.2.2.2.1⟩, BA.2.2.2.2.1, BA.2.2.2.2.2⟩
                  have hO9 : CH κ x y zz f t n r0 f2 ∧ RZ f2 t n ∨ RF κ x f n r0 ∧ f2 = f := Or.inl ⟨hC, z2⟩
                  refine g_mem (lwM_id _).symm ?_
                  refine g_iload F dL_law_646 2 rfl ?_
                  refine g_iload F dL_law_648 7 rfl ?_
                  refine g_iload F dL_law_650 6 rfl ?_
                  refine g_iload F dL_law_652 5 rfl ?_
                  refine g_iload F dL_law_654 4 rfl ?_
                  refine g_aload_n F dL_law_656 rfl 13 rfl ?_
                  refine g_aload_n F dL_law_657 rfl 14 rfl ?_
                  refine g_aload F dL_law_658 15 rfl ?_
                  refine g_aload F dL_law_660 18 rfl ?_
                  refine g_callS F (kL_sets l hv (ST_LAW hST hL) hz hO9) (va_cwS 8 F.1.2.2.2.2 gL_law_L_sets rfl rfl rfl (by decide +kernel) ⟨Nat.le_of_ble_eq_true rfl, Nat.le_of_ble_eq_true rfl⟩) rfl rfl rfl (Nat.le_of_ble_eq_true rfl) dL_law_662 ⟨by show cs + 500 + 11 + 500 + 1 + 1 + 500 + 2 + 500 + 0 ≤ 600086; omega, by show sl + 3000 + 66 + 3000 + 6 + 6 + 3000 + 12 + 3000 + 0 ≤ 7301442; omega⟩ (fun v9 u9 h9 => ?_)
                  obtain ⟨rfl, cX, gX, qX, wX, eX, LX⟩ := h9
                  obtain rfl := eX.symm
                  refine g_icmp_ne F 683 dL_law_665 (by decide) (fun h1 => ?_) (fun h1 => ?_)
                  · exact absurd rfl h1
                  · refine g_aload_n F dL_law_668 rfl 12 rfl ?_
                    refine g_aload_n F dL_law_669 rfl 13 rfl ?_
                    refine g_aload_n F dL_law_670 rfl 14 rfl ?_
                    refine g_aload F dL_law_671 15 rfl ?_
                    refine g_aload F dL_law_673 17 rfl ?_
                    refine g_aload F dL_law_675 18 rfl ?_
                    refine g_callS F (kL_isSo l hls hv2 (lw_Rl hv2.1 hv2.2.2.2.2.2.1 hST.1) z2 ac2 LX) (va_cwS 6 F.1.2.2.2.2 gL_law_L_isSo rfl rfl rfl (by decide +kernel) ⟨Nat.le_of_ble_eq_true rfl, Nat.le_of_ble_eq_true rfl⟩) rfl rfl rfl (Nat.le_of_ble_eq_true rfl) dL_law_677 ⟨by show cs + 500 + 11 + 500 + 1 + 1 + 500 + 2 + 500 + 0 + 800 ≤ 600086; omega, by show sl + 3000 + 66 + 3000 + 6 + 6 + 3000 + 12 + 3000 + 0 + 4800 ≤ 7301442; omega⟩ (g_det ?_)
                    refine g_if_ne F 685 dL_law_680 (by decide) (fun h2 => ?_) (fun h2 => ?_)
                    · refine g_lv (lv2 := [(8, .int (nI j)), (0, .ref b), (1, .ref (B + 0)), (2, .ref (B + 709)), (3, .ref (B + 710)), (4, .ref (B + 711)), (5, .ref (B + 712)), (6, .ref (B + 713)), (7, .ref (B + 714))]) [10, 11, 12, 13, 14, 15, 16, 17, 18] rfl ?_
                      refine g_widen (k := cs + 8000) (n := sl + 48000) (by show cs + 500 + 11 + 500 + 1 + 1 + 500 + 2 + 500 + 0 + 800 ≤ cs + 8000; omega) (by show sl + 3000 + 66 + 3000 + 6 + 6 + 3000 + 12 + 3000 + 0 + 4800 ≤ sl + 48000; omega) ?_
                      exact kk _ (ST_INV hST hv2 z2 ac2 gb2 LX)
                    · exact absurd h2 (by decide)
                · exact absurd (lg_eq0.mpr rfl) h5
    · exact absurd (le_100 hr0) h1
  · obtain rfl := eu9.symm
    have hv2 := hv
    have z2 := z
    have ac2 := ac
    have gb2 := gb
    have hST : STg M M f t n := ⟨hh, ⟨_, H⟩, SL, fun _ _ => rfl⟩
    have hO9 : CH κ x y zz f t n r0 f ∧ RZ f t n ∨ RF κ x f n r0 ∧ f = f := Or.inr ⟨hR, rfl⟩
    refine g_istore F (lv2 := [(17, _), (15, _), (14, _), (13, _), (12, _), (11, _), (10, _), (9, _), (8, _), (0, _), (1, _), (2, _), (3, _), (4, _), (5, _), (6, _), (7, _)]) dL_law_556 (by decide) rfl ?_
    refine g_iload F dL_law_558 0 rfl ?_
    refine g_bipush F (v := -100) dL_law_560 (by decide +kernel) ?_
    refine g_icmp_ge F 577 dL_law_562 (by decide) (fun h1 => ?_) (fun h1 => ?_)
    · exact absurd hr0 (Int32.not_lt.mpr h1)
    · refine g_aload_n F dL_law_565 rfl 10 rfl ?_
      refine g_callS F (kL_told l hls hv hh z ac) (va_cwS 1 F.1.2.2.2.2 gL_law_L_told rfl rfl rfl (by decide +kernel) ⟨Nat.le_of_ble_eq_true rfl, Nat.le_of_ble_eq_true rfl⟩) rfl rfl rfl (Nat.le_of_ble_eq_true rfl) dL_law_566 ⟨by show cs + 500 + 11 + 500 ≤ 600086; omega, by show sl + 3000 + 66 + 3000 ≤ 7301442; omega⟩ (g_det ?_)
      refine g_lload F dL_law_569 1 rfl ?_
      refine g_lcmp F dL_law_571 ?_
      refine g_if_eq F 577 dL_law_572 (by decide) (fun h2 => ?_) (fun h2 => ?_)
      · refine g_iload F dL_law_577 0 rfl ?_
        refine g_bipush F (v := -100) dL_law_579 (by decide +kernel) ?_
        refine g_icmp_le F 646 dL_law_581 (by decide) (fun h1 => ?_) (fun h1 => ?_)
        · refine g_mem (lwM_id _).symm ?_
          refine g_iload F dL_law_646 0 rfl ?_
          refine g_iload F dL_law_648 5 rfl ?_
          refine g_iload F dL_law_650 4 rfl ?_
          refine g_iload F dL_law_652 3 rfl ?_
          refine g_iload F dL_law_654 2 rfl ?_
          refine g_aload_n F dL_law_656 rfl 11 rfl ?_
          refine g_aload_n F dL_law_657 rfl 12 rfl ?_
          refine g_aload F dL_law_658 13 rfl ?_
          refine g_aload F dL_law_660 16 rfl ?_
          refine g_callS F (kL_sets l hv (ST_LAW hST hL) hz hO9) (va_cwS 8 F.1.2.2.2.2 gL_law_L_sets rfl rfl rfl (by decide +kernel) ⟨Nat.le_of_ble_eq_true rfl, Nat.le_of_ble_eq_true rfl⟩) rfl rfl rfl (Nat.le_of_ble_eq_true rfl) dL_law_662 ⟨by show cs + 500 + 11 + 500 + 0 ≤ 600086; omega, by show sl + 3000 + 66 + 3000 + 0 ≤ 7301442; omega⟩ (fun v9 u9 h9 => ?_)
          obtain ⟨rfl, cX, gX, qX, wX, eX, LX⟩ := h9
          obtain rfl := eX.symm
          refine g_icmp_ne F 683 dL_law_665 (by decide) (fun h1 => ?_) (fun h1 => ?_)
          · exact absurd rfl h1
          · refine g_aload_n F dL_law_668 rfl 10 rfl ?_
            refine g_aload_n F dL_law_669 rfl 11 rfl ?_
            refine g_aload_n F dL_law_670 rfl 12 rfl ?_
            refine g_aload F dL_law_671 13 rfl ?_
            refine g_aload F dL_law_673 15 rfl ?_
            refine g_aload F dL_law_675 16 rfl ?_
            refine g_callS F (kL_isSo l hls hv2 (lw_Rl hv2.1 hv2.2.2.2.2.2.1 hST.1) z2 ac2 LX) (va_cwS 6 F.1.2.2.2.2 gL_law_L_isSo rfl rfl rfl (by decide +kernel) ⟨Nat.le_of_ble_eq_true rfl, Nat.le_of_ble_eq_true rfl⟩) rfl rfl rfl (Nat.le_of_ble_eq_true rfl) dL_law_677 ⟨by show cs + 500 + 11 + 500 + 0 + 800 ≤ 600086; omega, by show sl + 3000 + 66 + 3000 + 0 + 4800 ≤ 7301442; omega⟩ (g_det ?_)
            refine g_if_ne F 685 dL_law_680 (by decide) (fun h3 => ?_) (fun h3 => ?_)
            · refine g_lv (lv2 := [(8, .int (nI j)), (0, .ref b), (1, .ref (B + 0)), (2, .ref (B + 709)), (3, .ref (B + 710)), (4, .ref (B + 711)), (5, .ref (B + 712)), (6, .ref (B + 713)), (7, .ref (B + 714))]) [8, 9, 10, 11, 12, 13, 14, 15, 16] rfl ?_
              refine g_widen (k := cs + 8000) (n := sl + 48000) (by show cs + 500 + 11 + 500 + 0 + 800 ≤ cs + 8000; omega) (by show sl + 3000 + 66 + 3000 + 0 + 4800 ≤ sl + 48000; omega) ?_
              exact kk _ (ST_INV hST hv2 z2 ac2 gb2 LX)
            · exact absurd h3 (by decide)
        · exact absurd (le_101 hr0) h1
      · exact absurd (lg_eq0.mpr rfl) h2
end LAWB
