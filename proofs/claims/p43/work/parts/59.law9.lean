/-! history and slots: what undo gives back, what a slot keeps -/
def HQ (M : Mm) (h : Nat) : Prop := hsS (M 142) ∧ h ≤ 6 ∧ M 141 1 = nI h
def SLQ (M : Mm) : Prop := ∀ s, s < 2 → ∃ k, k ≤ 20 ∧ M (567 + 71 * s + 1) 5 = nI k
theorem hd_hs {M : Mm} {h : Nat} (hS : hsS (M 142)) : hsS (hdM M h 142) := by
  unfold hdM; split
  · exact roF_hs hS
  · exact hS
theorem rec_142 {M : Mm} {h : Nat} (hS : hsS (M 142)) : recM M h 1 142 = hdM M h 142 := by
  have := (hd_hs (h := h) hS (min h 5) (by omega)).1
  rw [recM, va_up_ne _ _ (by omega), cpR_out (by simp only [stP]; omega)]
theorem rec_HQ {M : Mm} {h : Nat} (H : HQ M h) : HQ (recM M h 1) (min h 5 + 1) :=
  ⟨by rw [rec_142 H.1]; exact hd_hs H.1, by omega, by rw [recM, va_up_self, upd_at]⟩
theorem rec_top {M : Mm} {h x : Nat} (hS : hsS (M 142)) (hx : x < 70) : recM M h 1 (stP (recM M h 1 142) (min h 5) + x) = M (1 + x) := by
  rw [rec_142 hS]
  have := (hd_hs (h := h) hS (min h 5) (by omega)).1
  rw [recM, va_up_ne _ _ (by simp only [stP]; omega), cpR_in (by omega), show 1 + (stP (hdM M h 142) (min h 5) + x - stP (hdM M h 142) (min h 5)) = 1 + x by omega, hdM_o (by omega) (by omega)]
theorem stP_rng {f : Nat → Int32} (hS : hsS f) {j : Nat} (hj : j < 6) : 143 ≤ stP f j ∧ stP f j + 70 ≤ 563 := by
  have := (hS j hj).1
  simp only [stP]; omega
theorem FR_HQ {M U : Mm} {h : Nat} (H : HQ M h) (F : FR M h U) : HQ U (min h 5 + 1) := by
  have R := rec_HQ H
  exact ⟨by rw [F 142 (by omega)]; exact R.1, R.2.1, by rw [F 141 (by omega)]; exact R.2.2⟩
theorem FR_SLQ {M U : Mm} {h : Nat} (H : HQ M h) (S : SLQ M) (F : FR M h U) : SLQ U := fun s hs => by
  rw [F _ (by omega), recM_o (by omega) H.1]; exact S s hs
theorem FR_law {M U : Mm} {h x : Nat} (H : HQ M h) (F : FR M h U) (hx : 709 ≤ x) : U x = M x := by
  rw [F _ (by omega), recM_o (by omega) H.1]
/-- saved; undone; restored -/
def svM (U : Mm) : Mm := va_up (cpR U (567 + 71 * 1 + 1) 1) (567 + 71 * 1) (upd (cpR U (567 + 71 * 1 + 1) 1 (567 + 71 * 1)) 1 1)
def rsM (W : Mm) (h : Nat) : Mm := cpR (recM W h 1) 1 (567 + 71 * 1 + 1)
theorem sv_o {U : Mm} {x : Nat} (hx : x < 638 ∨ 709 ≤ x) : svM U x = U x := by
  unfold svM
  rw [va_up_ne _ _ (by omega), cpR_out (by omega)]
theorem sv_in {U : Mm} {x : Nat} (hx : x < 70) : svM U (639 + x) = U (1 + x) := by
  unfold svM
  rw [va_up_ne _ _ (by omega), cpR_in (by omega)]
  exact congrArg U (by omega)
theorem sv_1 (U : Mm) : svM U 638 1 = 1 := by
  unfold svM
  rw [show (567 + 71 * 1 : Nat) = 638 by rfl, va_up_self, upd_at]
theorem sv_HQ {U : Mm} {h : Nat} (H : HQ U h) : HQ (svM U) h := ⟨by rw [sv_o (by omega)]; exact H.1, H.2.1, by rw [sv_o (by omega)]; exact H.2.2⟩
theorem gb_o {V : Mm} {h x : Nat} (hx : x < 1 ∨ 71 ≤ x) (h2 : x ≠ 141) : gbM V h 1 x = V x := by
  unfold gbM
  rw [cpR_out (by omega), va_up_ne _ _ h2]
theorem gb_141 (V : Mm) (h : Nat) : gbM V h 1 141 1 = nI (h - 1) := by
  unfold gbM
  rw [cpR_out (by omega), va_up_self, upd_at]
theorem gb_in {V : Mm} {h x : Nat} (H : HQ V h) (h1 : 1 ≤ h) (hx : x < 70) : gbM V h 1 (1 + x) = V (stP (V 142) (h - 1) + x) := by
  have := stP_rng H.1 (j := h - 1) (by have := H.2.1; omega)
  unfold gbM
  rw [cpR_in (by omega), show stP (V 142) (h - 1) + (1 + x - 1) = stP (V 142) (h - 1) + x by omega, va_up_ne _ _ (by omega)]
theorem gb_HQ {V : Mm} {h : Nat} (H : HQ V h) (h1 : 1 ≤ h) : HQ (gbM V h 1) (h - 1) :=
  ⟨by rw [gb_o (by omega) (by omega)]; exact H.1, by have := H.2.1; omega, gb_141 V h⟩
/-- what was undone is as it was -/
theorem undone {M U : Mm} {h : Nat} (H : HQ M h) (F : FR M h U) {x : Nat} (hx : x < 70) : gbM (svM U) (min h 5 + 1) 1 (1 + x) = M (1 + x) := by
  have HU := FR_HQ H F
  have R := stP_rng (rec_HQ H).1 (j := min h 5) (by omega)
  rw [gb_in (sv_HQ HU) (by omega) hx, sv_o (x := 142) (by omega), F 142 (by omega), show min h 5 + 1 - 1 = min h 5 by omega, sv_o (by omega), F _ (by omega), rec_top H.1 hx]
theorem rs_in {W : Mm} {h x : Nat} (H : HQ W h) (hx : x < 70) : rsM W h (1 + x) = W (639 + x) := by
  unfold rsM
  rw [cpR_in (by omega), recM_o (by omega) H.1]
  exact congrArg W (by omega)
theorem rs_o {W : Mm} {h x : Nat} (H : HQ W h) (hx : 563 ≤ x) : rsM W h x = W x := by
  unfold rsM
  rw [cpR_out (by omega), recM_o (by omega) H.1]
theorem rs_HQ {W : Mm} {h : Nat} (H : HQ W h) : HQ (rsM W h) (min h 5 + 1) := by
  have R := rec_HQ H
  exact ⟨by unfold rsM; rw [cpR_out (by omega)]; exact R.1, R.2.1, by unfold rsM; rw [cpR_out (by omega)]; exact R.2.2⟩
/-- .. and what was restored is as it was saved -/
theorem restored {M U : Mm} {h : Nat} (H : HQ M h) (F : FR M h U) {x : Nat} (hx : x < 70) : rsM (gbM (svM U) (min h 5 + 1) 1) (min h 5) (1 + x) = U (1 + x) := by
  have HV := gb_HQ (sv_HQ (FR_HQ H F)) (by omega)
  rw [show min h 5 + 1 - 1 = min h 5 by omega] at HV
  rw [rs_in HV hx, gb_o (by omega) (by omega), sv_in hx]
theorem back_all {M U : Mm} {h : Nat} {n : Nat} (H : HQ M h) (S : SLQ M) (F : FR M h U) (hn : n ≤ 20) (h5 : U 1 5 = nI n) : HQ (gbM (svM U) (min h 5 + 1) 1) (min h 5) ∧ SLQ (gbM (svM U) (min h 5 + 1) 1) ∧ gbM (svM U) (min h 5 + 1) 1 638 1 = 1 ∧ HQ (rsM (gbM (svM U) (min h 5 + 1) 1) (min h 5)) (min (min h 5) 5 + 1) ∧ SLQ (rsM (gbM (svM U) (min h 5 + 1) 1) (min h 5)) ∧ ∀ x, 709 ≤ x → rsM (gbM (svM U) (min h 5 + 1) 1) (min h 5) x = M x := by
  have HV := gb_HQ (sv_HQ (FR_HQ H F)) (by omega)
  rw [show min h 5 + 1 - 1 = min h 5 by omega] at HV
  have SW : SLQ (gbM (svM U) (min h 5 + 1) 1) := fun s hs => by
    rw [gb_o (by omega) (by omega)]
    by_cases h0 : s = 0
    · subst h0
      rw [sv_o (by omega)]; exact FR_SLQ H S F 0 (by omega)
    · obtain rfl : s = 1 := by omega
      exact ⟨n, hn, by rw [show (567 + 71 * 1 + 1 : Nat) = 639 + 0 by rfl, sv_in (by omega)]; exact h5⟩
  refine ⟨HV, SW, by rw [gb_o (by omega) (by omega)]; exact sv_1 U, rs_HQ HV, fun s hs => ?_, fun x hx => ?_⟩
  · rw [rs_o HV (by omega)]; exact SW s hs
  · rw [rs_o HV (by omega), gb_o (by omega) (by omega), sv_o (by omega), FR_law H F hx]
theorem C_save (l : Launch) (hls : l.stackTraces = false) {U : Mm} {f : Nat → Int32} {t p n : Nat} (hv : RV f t p n) (hh : Rl U 1 f t n) : Ct l yL_save wsL_save rmL_save (fun B => [.ref (B + 0), .int 1]) U (fun _ v u => v = some (.int (staR f n)) ∧ u = svM U) := by
  have hn := hv.2.2.2.2.2.1
  have e5 : U 1 5 = nI n := hh.2.2.2.2.2.2.1.1.trans hv.2.2.2.2.2.2.1
  refine Ct.imp (kL_save l _ (kX8_save l hls e5 hn _) (fun B v u ⟨_, _, _, e, _⟩ => ⟨_, e⟩) (fun E u q => q.1)) (fun B v u h8 => ?_)
  rcases h8 with ⟨s, hs, ex, e, eu⟩ | ⟨-, q⟩
  · obtain rfl := sameN (a := 1) (by omega) (by omega) (x := 1) rfl ex
    have hV : Rl (svM U) 1 f t n := Rl_of (by have := hv.1; omega) hn (fun x hx => sv_o (by omega)) (fun _ _ => rfl) hh
    exact ⟨by rw [e]; exact congrArg (fun q => some (Value.int q)) (stn_eq hV.2.2.2.2.2.2.2 n (Nat.le_refl n)), eu⟩
  · exact absurd ⟨by decide, by decide⟩ q.2.1
theorem C_undo (l : Launch) (hls : l.stackTraces = false) {V : Mm} {h : Nat} (H : HQ V h) (h1 : 1 ≤ h) : Ct l yL_undo wsL_undo rmL_undo (fun B => [.ref (B + 0)]) V (fun _ v u => v = some (.int (nI (h - 1))) ∧ u = gbM V h 1) := by
  refine Ct.imp (kL_undo l (kX8_undo l hls H.1 H.2.1 H.2.2) (fun B v u ⟨_, e, _⟩ => ⟨_, e⟩) (fun E u q => q.1)) (fun B v u h8 => ?_)
  rcases h8 with ⟨-, e, eu⟩ | ⟨-, q⟩
  · exact ⟨by rw [e, gb_141], eu⟩
  · exact absurd (H.2.2.symm.trans q.2.1) (nI_ne0 (by omega) (by have := H.2.1; omega))
theorem C_restore (l : Launch) (hls : l.stackTraces = false) {W : Mm} {h : Nat} {f : Nat → Int32} {t p n : Nat} (H : HQ W h) (S : SLQ W) (h6 : W 638 1 = 1) (hv : RV f t p n) (hh : Rl (rsM W h) 1 f t n) : Ct l yL_restore wsL_restore rmL_restore (fun B => [.ref (B + 0), .int 1]) W (fun _ v u => v = some (.int (staR f n)) ∧ u = rsM W h) := by
  have hn := hv.2.2.2.2.2.1
  refine Ct.imp (kL_restore l _ (kX8_restore l hls H.1 H.2.1 H.2.2 S _) (fun B v u ⟨_, _, _, _, _, _, _, e, _⟩ => ⟨_, e⟩) (fun E u q => q.elim (fun w => Or.inl w.1) (fun w => Or.inr w.1))) (fun B v u h8 => ?_)
  rcases h8 with ⟨s, hs, ex, -, n2, hn2, e2, e, eu⟩ | ⟨-, q | q⟩ | ⟨-, q | q⟩
  · obtain rfl := sameN (a := 1) (by omega) (by omega) (x := 1) rfl ex
    have e5 : W (639 + 0) 5 = nI n := by
      rw [← rs_in H (by omega)]
      exact hh.2.2.2.2.2.2.1.1.trans hv.2.2.2.2.2.2.1
    obtain rfl : n2 = n := nI_inj (by omega) (by omega) (e2.symm.trans e5)
    exact ⟨by rw [e]; exact congrArg (fun q => some (Value.int q)) (stn_eq hh.2.2.2.2.2.2.2 n2 (Nat.le_refl n2)), eu⟩
  · exact absurd ⟨by decide, by decide⟩ q.2.1
  · exact absurd q.1 n_IS
  · exact absurd q.1 n_SI
  · obtain ⟨-, s, hs, ex, e0, -⟩ := q
    obtain rfl := sameN (a := 1) (by omega) (by omega) (x := 1) rfl ex
    exact absurd (h6.symm.trans e0) (by decide)
