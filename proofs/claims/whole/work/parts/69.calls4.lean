/-! read, on both sides -/
theorem rd_cls {U : Mm} {f : Nat → Int32} {L : Nat} (hP : PD (U 565) f (U 564) (kcN 0 L) 0 L) (hR : ∃ row, Rel U 1 row) : ∀ i, (∀ j, j < i → (rdT (rdI U j)).1 = true) → ∃ a row, PD (rdI U i 565) f (rdI U i 564) (kcN a L) a L ∧ Rel (rdI U i) 1 row := by
  intro i
  induction i with
  | zero => intro _; obtain ⟨row, hR⟩ := hR; exact ⟨0, row, hP, hR⟩
  | succ i ih =>
    intro h
    obtain ⟨a, row, hPi, hRi⟩ := ih (fun j hj => h j (by omega))
    have ht := h i (by omega)
    show ∃ a row, PD (rdN (rdI U i) 565) f (rdN (rdI U i) 564) (kcN a L) a L ∧ Rel (rdN (rdI U i)) 1 row
    generalize rdI U i = X at hPi hRi ht ⊢
    obtain ⟨e1, e2, hQ, hle, hq⟩ := part_is hPi
    obtain ⟨hab, ok⟩ := hq (e1.symm.trans ht)
    have hR2 : Rel (rdU X) 1 row := Rel_mem (fun x q1 q2 => va_up_ne _ _ (by omega)) hRi
    have eg : rdU X 564 = (rdT X).2 := va_up_self _ _ _
    have ok2 : OKF (rdU X 564) (partR f (kcN a L)).2 := by rw [eg]; exact ok
    obtain ⟨c1, c2, -⟩ := co_dc hR2 ok2
    have eD : ∀ x, 71 ≤ x → rdD X x = rdU X x := c2
    have eN : ∀ x, x ≠ 564 → rdN X x = rdD X x := fun x hx => va_up_ne _ _ hx
    have eN2 : rdN X 564 = (tsF (rdD X 565) (rdD X 564) 59).2 := va_up_self _ _ _
    have f564 : rdD X 564 = (rdT X).2 := (eD 564 (by omega)).trans eg
    have f565 : rdD X 565 = X 565 := (eD 565 (by omega)).trans (va_up_ne _ _ (by omega))
    have hRn : ∃ row, Rel (rdN X) 1 row := ⟨_, Rel_mem (fun x q1 q2 => eN x (by omega)) c1⟩
    obtain ⟨row2, hRn⟩ := hRn
    rw [eN 565 (by omega), f565, eN2, f564, f565]
    by_cases w : nxP f L a < L ∧ f (nxP f L a) = 59
    · obtain ⟨t1, t2⟩ := ts_ok hQ w.1 w.2
      have t1' : (tsF (X 565) (rdT X).2 59).2 = upd (rdT X).2 1 (nI (nxP f L a + 1)) := by
        show (tsF (X 565) (tpF (X 565) (X 564)).2 59).2 = _
        rw [t1]
      rw [t1']
      exact ⟨nxP f L a + 1, row2, ⟨by have := w.1; omega, hQ.2.1, rfl, hQ.2.2.2.1, rfl, rfl, hQ.2.2.2.2.2.2⟩, hRn⟩
    · obtain ⟨t1, t2⟩ := ts_no (d := 59) hQ w
      have t1' : (tsF (X 565) (rdT X).2 59).2 = (rdT X).2 := by
        show (tsF (X 565) (tpF (X 565) (X 564)).2 59).2 = _
        rw [t1]
      rw [t1']
      exact ⟨nxP f L a, row2, ⟨hQ.1, hQ.2.1, hQ.2.2.1, hQ.2.2.2.1, rfl, rfl, hQ.2.2.2.2.2.2⟩, hRn⟩
theorem rd_okG {U : Mm} {f : Nat → Int32} {L : Nat} (hP : PD (U 565) f (U 564) (kcN 0 L) 0 L) (hR : ∃ row, Rel U 1 row) (i : Nat) (h : ∀ j, j < i + 1 → (rdT (rdI U j)).1 = true) : rdOk (rdU (rdI U i)) := by
  obtain ⟨a, row, hPi, hRi⟩ := rd_cls hP hR i (fun j hj => h j (by omega))
  have ht := h i (by omega)
  obtain ⟨e1, e2, hQ, hle, hq⟩ := part_is hPi
  obtain ⟨hab, ok⟩ := hq (e1.symm.trans ht)
  have hR2 : Rel (rdU (rdI U i)) 1 row := Rel_mem (fun x q1 q2 => va_up_ne _ _ (by omega)) hRi
  exact (ok_rd hR2 (va_up_self _ _ _) ok).1

set_option maxHeartbeats 400000 in
theorem S_read (l : Launch) (hls : l.stackTraces = false) {M : Mm} (I : INV M) : Cw l yL_read wsL_read rmL_read (fun B => [.ref (B + 0), .ref (B + 717)]) M (N9 CC l yX9_read wsX9_read rmX9_read (fun B => [.ref (B + 709)])) := by
  obtain ⟨h, L, i1, i2, i3, i4, i5, i6⟩ := id I
  obtain ⟨t, p, n, hv, hh, z⟩ := id i1
  have hn := hv.2.2.2.2.2.1
  have e75 := hv.2.2.2.2.2.2.1
  have ht := hv.1
  have h74 := hv.2.1
  have hne := hv.2.2.2.2.2.2.2.1
  have e5 : M 1 5 = nI n := hh.2.2.2.2.2.2.1.1.trans e75
  have e19 : M 1 9 = nI t := hh.2.2.2.2.2.2.1.2.2.2.2.trans h74
  have hS := i2.2.2.1
  have rdM := rd_all (h := h) (U := M) i1 i5 i6 hS rfl rfl rfl
  have i2' : HR (va_up M 564 (rdF M).2) (M 711) h := HR_of (fun x q1 q2 => va_up_ne _ _ (by omega)) i2
  have i1' : Rel (va_up M 564 (rdF M).2) 1 (M 710) := Rel_mem (fun x q1 q2 => va_up_ne _ _ (by omega)) i1
  have i4' : SR (va_up M 564 (rdF M).2) (M 712) (M 713) := SR_of (fun x q1 q2 => va_up_ne _ _ (by omega)) i4
  have hS' := i2'.2.2.1
  have r_o : ∀ x, x < 141 ∨ 563 ≤ x → x ≠ 564 → rdS M h x = M x := fun x q1 q2 => (va_up_ne _ _ q2).trans ((recM_o q1 hS').trans (va_up_ne _ _ q2))
  have r564 : rdS M h 564 = upd (rdF M).2 1 0 := by
    show va_up (rdR M h) 564 (upd (rdR M h 564) 1 0) 564 = _
    rw [va_up_self]
    have : rdR M h 564 = (rdF M).2 := (recM_o (by omega) hS').trans (va_up_self _ _ _)
    rw [this]
  have hP0 : PD (rdS M h 565) (M 715) (rdS M h 564) (kcN 0 L) 0 L := by
    rw [r_o 565 (by omega) (by omega), r564]
    exact ⟨by omega, i5.1, rfl, rdM.2.2.2.1, rfl, rfl, i5.2.2⟩
  have hR0 : Rel (rdS M h) 1 (M 710) := Rel_mem (fun x q1 q2 => r_o x (by omega) (by omega)) i1
  refine Cw.imp (kL_read l (kX8_read l hls (h := h) hS i2.1 i2.2.1 (fun i _ hj => rd_okG hP0 ⟨_, hR0⟩ i hj)) (fun B v u ⟨_, e, _⟩ => ⟨_, e⟩) (fun E u q => q.1)) (fun k o u h8 => ?_)
  rcases h8 with ⟨rfl, B0, v0, ⟨hok, e, eu⟩, ho⟩ | ⟨rfl, q⟩
  · cases e
    have fr := (rdM.2.2.2.2 hok).2
    obtain ⟨N0, -, -, -, -, -, -, fE, -, -⟩ := fr
    have hu : ∀ x, 71 ≤ x → x ≠ 564 → u x = rdS M h x := fun x q1 q2 => by rw [eu]; exact (va_up_ne _ _ q2).trans (fE x q1 q2)
    have hge : ∀ x, 563 ≤ x → x ≠ 564 → u x = M x := fun x q1 q2 => (hu x (by omega) q2).trans (r_o x (by omega) q2)
    have hu9 : u 709 = M 709 := hge 709 (by omega) (by omega)
    have hu10 : u 710 = M 710 := hge 710 (by omega) (by omega)
    have hu15 : u 715 = M 715 := hge 715 (by omega) (by omega)
    obtain ⟨f1, f3, f8, f2, fA⟩ := rd_all (h := h) (U := u) i1 i5 i6 hS hu9 hu10 hu15
    obtain ⟨-, N, hN, g1, g2, g3, g4, g5, g6, g7, g8⟩ := fA hok
    refine ⟨_, kX9_read l (L := L) (s := h) (N := N) i5.1 (by rw [hu9]; exact i6) i2.1 (f3.trans i3) hN g1 g2 g3, fun B v u2 h9 => ?_⟩
    rcases h9 with ⟨n1, -⟩ | ⟨-, e9, e8⟩
    · exact absurd (f1.symm.trans hok) n1
    · have s_o : ∀ x, x ≠ 709 → x ≠ 711 → rkS u h x = u x := fun x q1 q2 => by
        unfold rkS rkR rcM thM
        rw [va_up_ne _ _ q1, va_up_ne _ _ q1, va_up_ne _ _ q2, va_up_ne _ _ q1, va_up_ne _ _ q1]
      have v_o : ∀ x, x ≠ 709 → x ≠ 710 → u2 x = rkS u h x := fun x q1 q2 => by
        rw [e8]; unfold rkE
        rw [va_up_ne _ _ q1]; exact g7 x q1 q2
      have v_9 : ∀ j, j < 9 → j ≠ 8 → u2 709 j = rkS u h 709 j := fun j q1 q2 => by
        rw [e8]; unfold rkE
        rw [va_up_self, upd_ne _ _ q2]; exact g8 j q1
      have v10 : u2 710 = raI (rkS u h) N 710 := by
        rw [e8]; unfold rkE
        exact va_up_ne _ _ (by omega)
      have v98 : u2 709 8 = 0 := by
        rw [e8]; unfold rkE
        rw [va_up_self, upd_at]
      have s711 : rkS u h 711 = hsW (u 711) (u 710) h := rfl
      refine ⟨_, e9, CC_mk ((v_9 0 (by omega) (by omega)).trans ?_) (by rw [ho, g4]) ?_⟩
      · show (rkF u).2 0 = 0
        exact (faE_fr _ (by omega) 61 _).trans rfl
      · refine INV_chg (M := va_up M 564 (rdF M).2) (U := u) (L := 0) i1' i2' i4' (fun x q1 q2 => (hu x (by omega) (by omega)).trans (va_up_ne _ _ (by omega))) (fun x q1 q2 => (hge x (by omega) (by omega)).trans (va_up_ne _ _ (by omega)).symm) (fun x hx => (v_o x (by omega) (by omega)).trans (s_o x (by omega) (by omega))) ?_ ((v_o 712 (by omega) (by omega)).trans ((s_o 712 (by omega) (by omega)).trans (hge 712 (by omega) (by omega)))) ((v_o 713 (by omega) (by omega)).trans ((s_o 713 (by omega) (by omega)).trans (hge 713 (by omega) (by omega)))) ((v_9 3 (by omega) (by omega)).trans rfl) v98 ⟨by omega, ?_, fun j hj => absurd hj (by omega)⟩ ?_
        · rw [v_o 711 (by omega) (by omega), s711, hge 711 (by omega) (by omega), hu10]; rfl
        · rw [eu, va_up_self, upd_at]; rfl
        · rw [v10]
          exact Rel_mem (fun x q1 q2 => by rw [eu]; exact va_up_ne _ _ (by omega)) g5
  · obtain ⟨-, n1, eu⟩ := q
    have hu : ∀ x, x ≠ 564 → u x = M x := fun x q1 => by rw [eu]; exact va_up_ne _ _ q1
    have hu9 : u 709 = M 709 := hu 709 (by omega)
    have hu10 : u 710 = M 710 := hu 710 (by omega)
    have hu15 : u 715 = M 715 := hu 715 (by omega)
    obtain ⟨f1, f3, f8, f2, -⟩ := rd_all (h := h) (U := u) i1 i5 i6 hS hu9 hu10 hu15
    have n2 : ¬ (rkF u).1 = -1 := fun w => n1 (f1.trans w)
    have hrk : (rkF u).2 0 = 0 := (faE_fr _ (by omega) 61 _).trans rfl
    refine ⟨_, kX9_readF l (L := L) i5.1 (by rw [hu9]; exact i6) n2, fun B v u2 h9 => ?_⟩
    obtain ⟨e9, e8⟩ := h9
    refine ⟨_, e9, ⟨by rw [e8, va_up_self, upd_at], fun w => absurd w (by decide), ?_⟩⟩
    exact INV_ask (u := u) (fun x hx => hu x (by omega)) (by rw [eu, va_up_self, f2]; exact i5.2.1.symm) (fun x hx => by rw [e8]; unfold thM; rw [va_up_ne _ _ (by omega), va_up_ne _ _ (by omega)]) (fun j hj => by rw [e8]; rfl) (by rw [e8]; rfl) (by rw [e8]; rfl) (by rw [e8]; rfl) (by rw [e8]; rfl) (by rw [e8, va_up_self, upd_ne _ _ (by omega), f3, hu9]) (by rw [e8, va_up_self, upd_ne _ _ (by omega), f8, hu9]; exact i6.symm) I
