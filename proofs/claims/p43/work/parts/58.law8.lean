theorem deF_o {M : Mm} {r e c x : Nat} (he : e < 20) (hc : c < 8) (h : oR r x) : deF M r (noP r e) c x = M x := by
  unfold deF
  split
  · exact va_up_ne _ _ (by (try simp only [chP, obP, noP] at *); omega)
  · rw [va_up_ne _ _ (by (try simp only [chP, obP, noP] at *); omega), va_up_ne _ _ (by (try simp only [chP, obP, noP] at *); omega)]
/-! the calls that change: what they answer and leave -/
def CH (κ : Nat) (x y : Int32) (zz : Nat) (f : Nat → Int32) (t n : Nat) (r0 : Int32) (f2 : Nat → Int32) : Prop :=
  (κ = 0 ∧ ∃ c, c < 8 ∧ x = nI c ∧ f2 = upd (upd (upd (upd f (0 + c) y) (8 + c) (nI (zz % 3))) (16 + c) (nI (2 + zz % 11))) (24 + c) (nI (zz % 12)) ∧ r0 = shR f2 c (nI t))
  ∨ (κ = 1 ∧ ∃ c, c < 24 ∧ x = nI c ∧ f2 = upd f (32 + c) y ∧ r0 = f (32 + c))
  ∨ (κ = 2 ∧ ∃ c, c < 3 ∧ x = nI c ∧ f2 = upd f (62 + c) y ∧ r0 = f (62 + c))
  ∨ (κ = 3 ∧ ∃ c, c < 3 ∧ x = nI c ∧ f2 = upd f (56 + c) y ∧ r0 = f (56 + c) + 1)
  ∨ (κ = 4 ∧ f2 = upd (upd f 71 x) 72 y ∧ r0 = f 71)
  ∨ (κ = 5 ∧ ∃ e c, e < n ∧ c < 8 ∧ x = nI e ∧ f (132 + e) = 0 ∧ f (92 + e) = nI c ∧ f2 = daR f e c ∧ r0 = daB f e)
def RF (κ : Nat) (x : Int32) (f : Nat → Int32) (n : Nat) (r0 : Int32) : Prop := κ = 5 ∧ (x = nI n ∧ r0 = -101 ∨ ∃ e, e < n ∧ x = nI e ∧ ¬ f (132 + e) = 0 ∧ r0 = -103)
/-- what may be asked for -/
def VA (κ : Nat) (x y : Int32) (n : Nat) : Prop :=
  (κ = 0 ∧ (∃ c, c < 8 ∧ x = nI c) ∧ ∃ d, d ≤ 9 ∧ y = nI d)
  ∨ (κ = 1 ∧ (∃ c, c < 24 ∧ x = nI c) ∧ ∃ d, d ≤ 4 ∧ y = nI d)
  ∨ (κ = 2 ∧ (∃ c, c < 3 ∧ x = nI c) ∧ (y = -1 ∨ ∃ d, d < 8 ∧ y = nI d))
  ∨ (κ = 3 ∧ (∃ c, c < 3 ∧ x = nI c) ∧ ∃ d, d ≤ 2 ∧ y = nI d - 1)
  ∨ (κ = 4 ∧ (∃ c, 1 ≤ c ∧ c ≤ 5 ∧ x = nI c) ∧ ∃ d, 1 ≤ d ∧ d ≤ 8 ∧ y = nI d)
  ∨ (κ = 5 ∧ ∃ e, e ≤ n ∧ x = nI e)
/-- outside the ridge of now all is as behind the recording -/
def FR (M : Mm) (h : Nat) (u : Mm) : Prop := ∀ x, x < 1 ∨ 71 ≤ x → u x = recM M h 1 x
def CP (κ : Nat) (x y : Int32) (zz : Nat) (M : Mm) (f : Nat → Int32) (t n h : Nat) : Nat → Option Value → Mm → Prop := fun _ v u => (∃ r0 f2 p2, v = some (.int r0) ∧ -100 < r0 ∧ CH κ x y zz f t n r0 f2 ∧ RV f2 t p2 n ∧ Rl u 1 f2 t n ∧ RZ f2 t n ∧ AC f2 n ∧ GB f2 ∧ FR M h u) ∨ (∃ r0, v = some (.int r0) ∧ r0 < -100 ∧ u = M ∧ RF κ x f n r0)
theorem m100 {w : Nat} (h : w < 1000) : (-100 : Int32) < nI w := Int32.lt_of_lt_of_le (show (-100 : Int32) < 0 by decide) (nI_pos' (by omega))
theorem Rel_tn {u : Mm} {f2 : Nat → Int32} {t n : Nat} (R : Rel u 1 f2) (ht : t < 96) (hn : n ≤ 20) (h74 : f2 74 = nI t) (h75 : f2 75 = nI n) : ∃ p2, RV f2 t p2 n ∧ Rl u 1 f2 t n ∧ RZ f2 t n := by
  obtain ⟨t2, p2, n2, hv, hh, z⟩ := R
  obtain rfl : t2 = t := nI_inj (by have := hv.1; omega) (by omega) (hv.2.1.symm.trans h74)
  obtain rfl : n2 = n := nI_inj (by have := hv.2.2.2.2.2.1; omega) (by omega) (hv.2.2.2.2.2.2.1.symm.trans h75)
  exact ⟨p2, hv, hh, z⟩
theorem CP_of {κ : Nat} {x y : Int32} {zz : Nat} {M u : Mm} {f f2 : Nat → Int32} {t p n h B : Nat} {r0 : Int32} (hv : RV f t p n) (R : Rel u 1 f2) (h74 : f2 74 = f 74) (h75 : f2 75 = f 75) (ac : AC f2 n) (gb : GB f2) (hc : CH κ x y zz f t n r0 f2) (hr : -100 < r0) (hF : FR M h u) : CP κ x y zz M f t n h B (some (.int r0)) u := by
  obtain ⟨p2, h1, h2, h3⟩ := Rel_tn R hv.1 hv.2.2.2.2.2.1 (h74.trans hv.2.1) (h75.trans hv.2.2.2.2.2.2.1)
  exact Or.inl ⟨r0, f2, p2, rfl, hr, hc, h1, h2, h3, ac, gb, hF⟩

theorem B_setChimney (l : Launch) (hls : l.stackTraces = false) {M : Mm} {f : Nat → Int32} {t p n h : Nat} (hv : RV f t p n) (hh : Rl M 1 f t n) (z : RZ f t n) (ac : AC f n) (gb : GB f) (hS : hsS (M 142)) (hh6 : h ≤ 6) (h1 : M 141 1 = nI h) {c d : Nat} (zz : Nat) (hc : c < 8) (hd : d ≤ 9) : Ct l yL_setChimney wsL_setChimney rmL_setChimney (fun B => [.ref (B + 0), .int (nI c), .int (nI d), .int (nI (zz % 3)), .int (nI (2 + zz % 11)), .int (nI (zz % 12))]) M (CP 0 (nI c) (nI d) zz M f t n h) := by
  have hn := hv.2.2.2.2.2.1
  have ht := hv.1
  have hh1 : Rl (recM M h 1) 1 f t n := Rl_of (by omega) hn (fun x hx => recM_o (by omega) hS) (fun _ _ => rfl) hh
  have R1 : Rel (recM M h 1) 1 f := ⟨t, p, n, hv, hh1, z⟩
  have k3 : (0 : Int32) ≤ nI (zz % 3) ∧ nI (zz % 3) ≤ 2 := in_k (n := 2) (by omega) (by decide)
  have k11 : (2 : Int32) ≤ nI (2 + zz % 11) ∧ nI (2 + zz % 11) ≤ 12 := ⟨(nI_leI (a := 2) (by omega) (by omega)).mpr (by omega), (nI_leI (b := 12) (by omega) (by omega)).mpr (by omega)⟩
  have k12 : (0 : Int32) ≤ nI (zz % 12) ∧ nI (zz % 12) ≤ 11 := in_k (n := 11) (by omega) (by decide)
  have k9 : (0 : Int32) ≤ nI d ∧ nI d ≤ 9 := in_k (n := 9) (by omega) (by decide)
  refine Ct.imp (kL_setChimney l _ _ _ _ _ (kX8_setChimney l hls hS hh6 h1 _ _ _ _ _) (fun B v u ⟨_, _, _, _, e, _⟩ => ⟨_, e⟩) (fun E u q => q.elim (fun w => Or.inl w.1) (fun w => Or.inr w.1))) (fun B v u h8 => ?_)
  rcases h8 with ⟨c2, hc2, ex, -, e, eu⟩ | ⟨-, q | q⟩ | ⟨-, q | q⟩
  · obtain rfl := sameN (by omega) (by omega) (x := nI c) rfl ex
    have R2 := Rel_chm (y := nI d) (z := nI (zz % 3)) (t := nI (2 + zz % 11)) (b := nI (zz % 12)) hc k11 k12 R1
    rw [← eu] at R2 e
    have oC : ∀ j, 32 ≤ j → (upd (upd (upd (upd f (0 + c) (nI d)) (8 + c) (nI (zz % 3))) (16 + c) (nI (2 + zz % 11))) (24 + c) (nI (zz % 12))) j = f j := fun j hj => (upd_ne _ _ (by omega)).trans ((upd_ne _ _ (by omega)).trans ((upd_ne _ _ (by omega)).trans (upd_ne _ _ (by omega))))
    obtain ⟨p2, hv2, hh2, z2⟩ := Rel_tn R2 ht hn ((oC 74 (by omega)).trans hv.2.1) ((oC 75 (by omega)).trans hv.2.2.2.2.2.2.1)
    have e9 : shC u (chP 1 c) (u 1 9) = shR (upd (upd (upd (upd f (0 + c) (nI d)) (8 + c) (nI (zz % 3))) (16 + c) (nI (2 + zz % 11))) (24 + c) (nI (zz % 12))) c (nI t) := by rw [hh2.2.2.2.2.2.2.1.2.2.2.2.trans hv2.2.1, Rl_sh hh2 z2 hc (by omega)]
    rw [e, e9]
    refine CP_of hv R2 (oC 74 (by omega)) (oC 75 (by omega)) (AC_of hn (fun j hj => oC j (by omega)) ac) (GB_of (fun j hj => oC j (by omega)) gb) (Or.inl ⟨rfl, c, hc, rfl, rfl, rfl⟩) ?_ (fun x hx => by rw [eu]; exact va_up_ne _ _ (by simp only [chP]; omega))
    obtain ⟨w, hw, ew⟩ := shR_n (upd (upd (upd (upd f (0 + c) (nI d)) (8 + c) (nI (zz % 3))) (16 + c) (nI (2 + zz % 11))) (24 + c) (nI (zz % 12))) c (nI t)
    rw [ew]; exact m100 (by omega)
  · exact absurd (in7 hc) q.2.1
  · exact absurd q.1 n_IA
  · exact absurd q.1 n_AI
  · exact absurd ⟨k9, k3, k11, k12⟩ q.2.2.1
theorem B_setGrey (l : Launch) (hls : l.stackTraces = false) {M : Mm} {f : Nat → Int32} {t p n h : Nat} (hv : RV f t p n) (hh : Rl M 1 f t n) (z : RZ f t n) (ac : AC f n) (gb : GB f) (hS : hsS (M 142)) (hh6 : h ≤ 6) (h1 : M 141 1 = nI h) {c d : Nat} (zz : Nat) (hc : c < 24) (hd : d ≤ 4) : Ct l yL_setGrey wsL_setGrey rmL_setGrey (fun B => [.ref (B + 0), .int (nI c), .int (nI d)]) M (CP 1 (nI c) (nI d) zz M f t n h) := by
  have hn := hv.2.2.2.2.2.1
  have ht := hv.1
  have hh1 : Rl (recM M h 1) 1 f t n := Rl_of (by omega) hn (fun x hx => recM_o (by omega) hS) (fun _ _ => rfl) hh
  have R1 : Rel (recM M h 1) 1 f := ⟨t, p, n, hv, hh1, z⟩
  have k4 : (0 : Int32) ≤ nI d ∧ nI d ≤ 4 := in_k (n := 4) (by omega) (by decide)
  refine Ct.imp (kL_setGrey l _ _ (kX8_setGrey l hls hS hh6 h1 _ _) (fun B v u ⟨_, e, _⟩ => ⟨_, e⟩) (fun E u q => q.1)) (fun B v u h8 => ?_)
  rcases h8 with ⟨-, e, eu⟩ | ⟨-, q⟩
  · have R2 := Rel_grey (y := nI d) hc R1
    rw [← eu] at R2
    rw [e, gyF_k _ hc, hh1.2.2.2.2.1 c hc]
    refine CP_of hv R2 (upd_ne _ _ (by omega)) (upd_ne _ _ (by omega)) (AC_of hn (fun j hj => upd_ne _ _ (by omega)) ac) ?_ (Or.inr (Or.inl ⟨rfl, c, hc, rfl, rfl, rfl⟩)) ?_ (fun x hx => by rw [eu]; exact va_up_ne _ _ (by omega))
    · refine ⟨fun k hk => ?_, fun e he => by rw [upd_ne _ _ (by omega)]; exact gb.2 e he⟩
      by_cases hkc : k = c
      · rw [hkc, upd_at]; exact ⟨d, hd, rfl⟩
      · rw [upd_ne _ _ (by omega)]; exact gb.1 k hk
    · obtain ⟨d2, hd2, ed⟩ := gb.1 c hc
      rw [ed]; exact m100 (by omega)
  · exact absurd ⟨in23 hc, k4⟩ q.2.1
theorem B_watch (l : Launch) (hls : l.stackTraces = false) {M : Mm} {f : Nat → Int32} {t p n h : Nat} (hv : RV f t p n) (hh : Rl M 1 f t n) (z : RZ f t n) (ac : AC f n) (gb : GB f) (hS : hsS (M 142)) (hh6 : h ≤ 6) (h1 : M 141 1 = nI h) {c : Nat} {y : Int32} (zz : Nat) (hc : c < 3) (hy : y = -1 ∨ ∃ d, d < 8 ∧ y = nI d) : Ct l yL_watch wsL_watch rmL_watch (fun B => [.ref (B + 0), .int (nI c), .int y]) M (CP 2 (nI c) y zz M f t n h) := by
  have hn := hv.2.2.2.2.2.1
  have ht := hv.1
  have hh1 : Rl (recM M h 1) 1 f t n := Rl_of (by omega) hn (fun x hx => recM_o (by omega) hS) (fun _ _ => rfl) hh
  have R1 : Rel (recM M h 1) 1 f := ⟨t, p, n, hv, hh1, z⟩
  have k7 : y = -1 ∨ 0 ≤ y ∧ y ≤ 7 := hy.imp id (fun ⟨d, hd, e⟩ => by rw [e]; exact in7 hd)
  refine Ct.imp (kL_watch l _ _ (kX8_watch l hls hS hh6 h1 _ _) (fun B v u ⟨_, _, _, _, e, _⟩ => ⟨_, e⟩) (fun E u q => q.elim (fun w => Or.inl w.1) (fun w => Or.inr w.1))) (fun B v u h8 => ?_)
  rcases h8 with ⟨c2, hc2, ex, -, e, eu⟩ | ⟨-, q | q⟩ | ⟨-, q | q⟩
  · obtain rfl := sameN (by omega) (by omega) (x := nI c) rfl ex
    have R2 := Rel_watch (y := y) hc k7 R1
    rw [← eu] at R2
    rw [e, (hh1.2.2.2.1 c hc).1]
    refine CP_of hv R2 (upd_ne _ _ (by omega)) (upd_ne _ _ (by omega)) (AC_of hn (fun j hj => upd_ne _ _ (by omega)) ac) (GB_of (fun j hj => upd_ne _ _ (by omega)) gb) (Or.inr (Or.inr (Or.inl ⟨rfl, c, hc, rfl, rfl, rfl⟩))) ?_ (fun x hx => by rw [eu]; exact va_up_ne _ _ (by simp only [obP]; omega))
    rcases hv.2.2.2.2.2.2.2.2 c hc with e4 | ⟨d4, hd4, e4⟩
    · rw [e4]; decide
    · rw [e4]; exact m100 (by omega)
  · exact absurd (in2q hc) q.2.1
  · exact absurd q.1 n_IA
  · exact absurd q.1 n_AI
  · exact absurd k7 q.2.2.1
theorem B_setBias (l : Launch) (hls : l.stackTraces = false) {M : Mm} {f : Nat → Int32} {t p n h : Nat} (hv : RV f t p n) (hh : Rl M 1 f t n) (z : RZ f t n) (ac : AC f n) (gb : GB f) (hS : hsS (M 142)) (hh6 : h ≤ 6) (h1 : M 141 1 = nI h) {c d : Nat} (zz : Nat) (hc : c < 3) (hd : d ≤ 2) : Ct l yL_setBias wsL_setBias rmL_setBias (fun B => [.ref (B + 0), .int (nI c), .int (nI d - 1)]) M (CP 3 (nI c) (nI d - 1) zz M f t n h) := by
  have hn := hv.2.2.2.2.2.1
  have ht := hv.1
  have hh1 : Rl (recM M h 1) 1 f t n := Rl_of (by omega) hn (fun x hx => recM_o (by omega) hS) (fun _ _ => rfl) hh
  have R1 : Rel (recM M h 1) 1 f := ⟨t, p, n, hv, hh1, z⟩
  have k1 : (-1 : Int32) ≤ nI d - 1 ∧ nI d - 1 ≤ 1 := by
    rcases (show d = 0 ∨ d = 1 ∨ d = 2 by omega) with rfl | rfl | rfl <;> decide
  refine Ct.imp (kL_setBias l _ _ (kX8_setBias l hls hS hh6 h1 _ _) (fun B v u ⟨_, _, _, _, e, _⟩ => ⟨_, e⟩) (fun E u q => q.elim (fun w => Or.inl w.1) (fun w => Or.inr w.1))) (fun B v u h8 => ?_)
  rcases h8 with ⟨c2, hc2, ex, -, e, eu⟩ | ⟨-, q | q⟩ | ⟨-, q | q⟩
  · obtain rfl := sameN (by omega) (by omega) (x := nI c) rfl ex
    have R2 := Rel_bias (y := nI d - 1) hc R1
    rw [← eu] at R2
    rw [e, (hh1.2.2.2.1 c hc).2.1]
    refine CP_of hv R2 (upd_ne _ _ (by omega)) (upd_ne _ _ (by omega)) (AC_of hn (fun j hj => upd_ne _ _ (by omega)) ac) ?_ (Or.inr (Or.inr (Or.inr (Or.inl ⟨rfl, c, hc, rfl, rfl, rfl⟩)))) ?_ (fun x hx => by rw [eu]; exact va_up_ne _ _ (by simp only [obP]; omega))
    · refine ⟨fun k hk => by rw [upd_ne _ _ (by omega)]; exact gb.1 k hk, fun e he => ?_⟩
      by_cases hkc : e = c
      · rw [hkc, upd_at]; exact ⟨d, hd, rfl⟩
      · rw [upd_ne _ _ (by omega)]; exact gb.2 e he
    · obtain ⟨d2, hd2, ed⟩ := gb.2 c hc
      rw [ed, Int32.sub_add_cancel]; exact m100 (by omega)
  · exact absurd (in2q hc) q.2.1
  · exact absurd q.1 n_IA
  · exact absurd q.1 n_AI
  · exact absurd k1 q.2.2.1
theorem B_setLimit (l : Launch) (hls : l.stackTraces = false) {M : Mm} {f : Nat → Int32} {t p n h : Nat} (hv : RV f t p n) (hh : Rl M 1 f t n) (z : RZ f t n) (ac : AC f n) (gb : GB f) (hS : hsS (M 142)) (hh6 : h ≤ 6) (h1 : M 141 1 = nI h) {c d : Nat} (zz : Nat) (hc : 1 ≤ c) (hc5 : c ≤ 5) (hd : 1 ≤ d) (hd8 : d ≤ 8) : Ct l yL_setLimit wsL_setLimit rmL_setLimit (fun B => [.ref (B + 0), .int (nI c), .int (nI d)]) M (CP 4 (nI c) (nI d) zz M f t n h) := by
  have hn := hv.2.2.2.2.2.1
  have ht := hv.1
  have hh1 : Rl (recM M h 1) 1 f t n := Rl_of (by omega) hn (fun x hx => recM_o (by omega) hS) (fun _ _ => rfl) hh
  have R1 : Rel (recM M h 1) 1 f := ⟨t, p, n, hv, hh1, z⟩
  have k5 : (1 : Int32) ≤ nI c ∧ nI c ≤ 5 := inrx (n := 5) rfl hc hc5 (by omega)
  have k8 : (1 : Int32) ≤ nI d ∧ nI d ≤ 8 := inrx (n := 8) rfl hd hd8 (by omega)
  refine Ct.imp (kL_setLimit l _ _ (kX8_setLimit l hls hS hh6 h1 _ _) (fun B v u ⟨_, e, _⟩ => ⟨_, e⟩) (fun E u q => q.1)) (fun B v u h8 => ?_)
  rcases h8 with ⟨-, e, eu⟩ | ⟨-, q⟩
  · have R2 := Rel_limp (x := nI c) (y := nI d) k5 k8 R1
    rw [← eu] at R2
    rw [e, hh1.2.2.2.2.2.2.1.2.1]
    have oC : ∀ j, j ≠ 71 → j ≠ 72 → upd (upd f 71 (nI c)) 72 (nI d) j = f j := fun j j1 j2 => (upd_ne _ _ j2).trans (upd_ne _ _ j1)
    refine CP_of hv R2 (oC _ (by omega) (by omega)) (oC _ (by omega) (by omega)) (AC_of hn (fun j hj => oC _ (by omega) (by omega)) ac) (GB_of (fun j hj => oC _ (by omega) (by omega)) gb) (Or.inr (Or.inr (Or.inr (Or.inr (Or.inl ⟨rfl, rfl, rfl⟩))))) ?_ (fun x hx => by rw [eu]; exact va_up_ne _ _ (by omega))
    obtain ⟨L9, hL1, hL5, eL⟩ := z.1
    rw [eL]; exact m100 (by omega)
  · exact absurd ⟨k5, k8⟩ q.2.1
theorem B_appeal (l : Launch) (hls : l.stackTraces = false) {M : Mm} {f : Nat → Int32} {t p n h : Nat} (hv : RV f t p n) (hh : Rl M 1 f t n) (z : RZ f t n) (ac : AC f n) (gb : GB f) (hS : hsS (M 142)) (hh6 : h ≤ 6) (h1 : M 141 1 = nI h) {e0 : Nat} (y : Int32) (zz : Nat) (he : e0 ≤ n) : Ct l yL_appeal wsL_appeal rmL_appeal (fun B => [.ref (B + 0), .int (nI e0)]) M (CP 5 (nI e0) y zz M f t n h) := by
  have hn := hv.2.2.2.2.2.1
  have ht := hv.1
  have hh1 : Rl (recM M h 1) 1 f t n := Rl_of (by omega) hn (fun x hx => recM_o (by omega) hS) (fun _ _ => rfl) hh
  have R1 : Rel (recM M h 1) 1 f := ⟨t, p, n, hv, hh1, z⟩
  have e5 : M 1 5 = nI n := hh.2.2.2.2.2.2.1.1.trans hv.2.2.2.2.2.2.1
  have e4 : ∀ e, e < n → (M (noP 1 e) 4 = 0 ↔ f (132 + e) = 0) := fun e he => by
    rcases (hh.2.2.2.2.2.2.2 e he).2.2.1 with ⟨a, -, c⟩ | ⟨a, -, c⟩ | ⟨a, -, c⟩ <;> rw [a, c] <;> decide
  refine Ct.imp (kL_appeal l _ (kX8_appeal l hls hS hh6 h1 e5 hn (Rl_nch hh z) _) (fun B v u ⟨_, _, _, _, e, _⟩ => ⟨_, e⟩) (fun E u q => q.elim (fun w => Or.inl w.1) (fun w => Or.inr w.1))) (fun B v u h8 => ?_)
  rcases h8 with ⟨x, ⟨e, hen, ex, ea, ev, eu⟩, evv⟩ | ⟨ev, q | q⟩ | ⟨ev, q | q⟩
  · obtain rfl := sameN (by omega) (by omega) (x := nI e0) rfl ex
    obtain ⟨c, hc, ec⟩ := z.2.2.2.1 e0 hen
    have e0c : (M (noP 1 e0) 0).toNatClampNeg = c := by rw [(hh.2.2.2.2.2.2.2 e0 hen).1, ec, nI_clamp (by omega)]
    have h0 := (e4 e0 hen).mp ea
    obtain ⟨R2, eb⟩ := Rel_appeal hv.2.2.2.2.2.2.1 hn hen hc h0 R1
    rw [e0c] at eu ev
    rw [eb] at ev
    rw [← eu] at R2
    cases ev
    have eB : (if daB f e0 = 0 then (0 : Int32) else 1) = daB f e0 := by
      unfold daB
      by_cases hu : f (152 + e0) < 2
      · rw [if_pos hu]; rfl
      · rw [if_neg hu]; rfl
    rw [evv, eB]
    refine CP_of hv R2 (da_o (by omega) (by omega)) (da_o (by omega) (by omega)) (AC_da hn hen hc ec h0 ac) (GB_of (fun j hj => da_o (by omega) (by omega)) gb) (Or.inr (Or.inr (Or.inr (Or.inr (Or.inr ⟨rfl, e0, c, hen, hc, rfl, h0, ec, rfl, rfl⟩))))) ?_ (fun x hx => by rw [eu]; exact deF_o (by omega) hc (by omega))
    unfold daB
    by_cases hu : f (152 + e0) < 2
    · rw [if_pos hu]; decide
    · rw [if_neg hu]; decide
  · refine Or.inr ⟨-101, ev, by decide, q.2.2, rfl, Or.inl ⟨?_, rfl⟩⟩
    by_cases hlt : e0 < n
    · exact absurd (innx hn rfl hlt) q.2.1
    · rw [show e0 = n by omega]
  · exact absurd q.1 n_IS
  · exact absurd q.1 n_SI
  · obtain ⟨-, e, hen, ex, ea, eu⟩ := q
    obtain rfl := sameN (by omega) (by omega) (x := nI e0) rfl ex
    exact Or.inr ⟨-103, ev, by decide, eu, rfl, Or.inr ⟨e0, hen, rfl, fun q => ea ((e4 e0 hen).mpr q), rfl⟩⟩
def PP (M : Mm) (f : Nat → Int32) (t p n h : Nat) : Nat → Option Value → Mm → Prop := fun _ v u => v = some (.int (tkR f t p 75 - f 75)) ∧ (∃ t2 n2, n ≤ n2 ∧ RV (tkR f t p) t2 p n2 ∧ Rl u 1 (tkR f t p) t2 n2 ∧ RZ (tkR f t p) t2 n2 ∧ AC (tkR f t p) n2 ∧ GB (tkR f t p)) ∧ FR M h u
theorem B_pass (l : Launch) (hls : l.stackTraces = false) {M : Mm} {f : Nat → Int32} {t p n h : Nat} (hv : RV f t p n) (hh : Rl M 1 f t n) (z : RZ f t n) (ac : AC f n) (gb : GB f) (hS : hsS (M 142)) (hh6 : h ≤ 6) (h1 : M 141 1 = nI h)  : Ct l yL_pass wsL_pass rmL_pass (fun B => [.ref (B + 0), .int 1]) M (PP M f t p n h) := by
  have hn := hv.2.2.2.2.2.1
  have ht := hv.1
  have hh1 : Rl (recM M h 1) 1 f t n := Rl_of (by omega) hn (fun x hx => recM_o (by omega) hS) (fun _ _ => rfl) hh
  have R1 : Rel (recM M h 1) 1 f := ⟨t, p, n, hv, hh1, z⟩
  refine Ct.imp (kL_pass l _ (kX8_pass l hls hS hh6 h1 (Rel_CJ ⟨t, p, n, hv, hh, z⟩) _) (fun B v u ⟨_, _, _, _, e, _⟩ => ⟨_, e⟩) (fun E u q => q.1)) (fun B v u h8 => ?_)
  rcases h8 with ⟨k, hk1, hk2, ex, e, eu⟩ | ⟨-, q⟩
  · obtain rfl := sameN (a := 1) (by omega) (by omega) (x := 1) rfl ex
    obtain ⟨t2, n2, hn2, hv2, hh2, z2⟩ := Rl_tick hv hh1 z
    have eP : itF (recM M h 1) 1 1 = ptF (recM M h 1) 1 t p := ptM_is ht hv.2.2.2.1 (Rl_CI hv hh1 z)
    rw [eP] at e eu
    obtain ⟨ac2, gb2⟩ := AC_tick hv ac gb hv2.2.2.2.2.2.2.1 hv2.2.2.2.2.2.1
    refine ⟨?_, ⟨t2, n2, hn2, hv2, by rw [eu]; exact hh2, z2, ac2, gb2⟩, fun x hx => by rw [eu, ← eP]; exact itF_o (by omega) 1⟩
    rw [e, hh2.2.2.2.2.2.2.1.1, hh1.2.2.2.2.2.2.1.1]
  · exact absurd ⟨by decide, by decide⟩ q.2.1
