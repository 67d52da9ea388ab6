
/-! the history, the slots, the pad; what holds between the calls -/
def HR (M : Mm) (hr : Nat → Int32) (h : Nat) : Prop := h ≤ 6 ∧ M 141 1 = nI h ∧ hsS (M 142) ∧ (∀ i j, i < 6 → j < 6 → (M 142 i).toNatClampNeg = (M 142 j).toNatClampNeg → i = j) ∧ ∀ j, j < h → Rel M (stP (M 142) j) (rwA hr j)
def SR (M : Mm) (sl sv : Nat → Int32) : Prop := ∀ s, s < 2 → (M (567 + 71 * s) 1 = 0 ∧ sv s = 0 ∧ M (567 + 71 * s + 1) 5 = 0 ∧ sl (s * 1804 + 75) = 0) ∨ (M (567 + 71 * s) 1 = 1 ∧ sv s = 1 ∧ Rel M (567 + 71 * s + 1) (rwA sl s))
def PRl (M : Mm) (tx : Nat → Int32) (L : Nat) : Prop := L ≤ 60 ∧ M 564 2 = nI L ∧ ∀ j, j < L → M 565 j = tx j
/-- what holds between the calls -/
def INV (M : Mm) : Prop := ∃ h L, Rel M 1 (M 710) ∧ HR M (M 711) h ∧ M 709 3 = nI h ∧ SR M (M 712) (M 713) ∧ PRl M (M 715) L ∧ M 709 8 = nI L
theorem HR_of {M N : Mm} {hr : Nat → Int32} {h : Nat} (hM : ∀ x, 141 ≤ x → x < 563 → N x = M x) (H : HR M hr h) : HR N hr h := by
  obtain ⟨h1, h2, h3, h4, h5⟩ := H
  unfold HR
  rw [hM 141 (by omega) (by omega), hM 142 (by omega) (by omega)]
  refine ⟨h1, h2, h3, h4, fun j hj => ?_⟩
  have := (h3 j (by omega)).1
  exact Rel_of (fun x hx => hM _ (by simp only [stP]; omega) (by simp only [stP]; omega)) (fun _ _ => rfl) (h5 j hj)
theorem SR_of {M N : Mm} {sl sv : Nat → Int32} (hM : ∀ x, 567 ≤ x → x < 709 → N x = M x) (H : SR M sl sv) : SR N sl sv := by
  intro s hs
  rw [hM (567 + 71 * s) (by omega) (by omega), hM (567 + 71 * s + 1) (by omega) (by omega)]
  rcases H s hs with q | ⟨q1, q2, q3⟩
  · exact Or.inl q
  · exact Or.inr ⟨q1, q2, Rel_of (fun x hx => hM _ (by omega) (by omega)) (fun _ _ => rfl) q3⟩
theorem Rel_row {M : Mm} {r : Nat} {f g : Nat → Int32} (hf : ∀ j, j < 1804 → g j = f j) (h : Rel M r f) : Rel M r g := Rel_of (fun _ _ => rfl) hf h
theorem Rel_mem {M N : Mm} {r : Nat} {f : Nat → Int32} (hM : ∀ x, r ≤ x → x < r + 70 → N x = M x) (h : Rel M r f) : Rel N r f := Rel_of (fun x hx => hM _ (by omega) (by omega)) (fun _ _ => rfl) h
theorem HR_put {D : Mm} {hr f row : Nat → Int32} {k : Nat} (hk : k < 6) (hS : hsS (D 142)) (hI : ∀ i j, i < 6 → j < 6 → (D 142 i).toNatClampNeg = (D 142 j).toNatClampNeg → i = j) (hR : ∀ j, j < k → Rel D (stP (D 142) j) (rwA hr j)) (R : Rel D 1 f) (hrow : row 1 = nI (k + 1)) : HR (va_up (cpR D (stP (D 142) k) 1) 141 row) (wrW hr (k * 1804) f 1804) (k + 1) := by
  have hk6 := (hS k hk).1
  have e142 : va_up (cpR D (stP (D 142) k) 1) 141 row 142 = D 142 := (va_up_ne _ _ (by omega)).trans (cpR_out (by simp only [stP]; omega))
  unfold HR
  rw [e142, va_up_self]
  refine ⟨by omega, hrow, hS, hI, fun j hj => ?_⟩
  have hj6 := (hS j (by omega)).1
  by_cases q : j = k
  · subst q
    refine Rel_of (fun x hx => ?_) (fun i hi => ?_) R
    · rw [va_up_ne _ _ (by simp only [stP]; omega), cpR_in (by omega), show 1 + (stP (D 142) j + x - stP (D 142) j) = 1 + x by omega]
    · show wrW hr (j * 1804) f 1804 (j * 1804 + i) = f i
      unfold wrW
      rw [if_pos (by omega), show j * 1804 + i - j * 1804 = i by omega]
  · have hne : (D 142 j).toNatClampNeg ≠ (D 142 k).toNatClampNeg := fun w => q (hI j k (by omega) hk w)
    refine Rel_of (fun x hx => ?_) (fun i hi => ?_) (hR j (by omega))
    · rw [va_up_ne _ _ (by simp only [stP]; omega), cpR_out (by simp only [stP]; omega)]
    · show wrW hr (k * 1804) f 1804 (j * 1804 + i) = hr (j * 1804 + i)
      unfold wrW
      rw [if_neg (by omega)]
theorem roF_at {f : Nat → Int32} {j : Nat} (h : j < 5) : roF f j = f (j + 1) := if_pos h
theorem roF_5 (f : Nat → Int32) : roF f 5 = f 0 := rfl
theorem roF_inj {f : Nat → Int32} (hI : ∀ i j, i < 6 → j < 6 → (f i).toNatClampNeg = (f j).toNatClampNeg → i = j) : ∀ i j, i < 6 → j < 6 → (roF f i).toNatClampNeg = (roF f j).toNatClampNeg → i = j := by
  intro i j hi hj h
  by_cases q1 : i < 5
  · rw [roF_at q1] at h
    by_cases q2 : j < 5
    · rw [roF_at q2] at h
      have := hI _ _ (by omega) (by omega) h; omega
    · rw [show j = 5 by omega, roF_5] at h
      have := hI _ _ (by omega) (by omega) h; omega
  · rw [show i = 5 by omega, roF_5] at h
    by_cases q2 : j < 5
    · rw [roF_at q2] at h
      have := hI _ _ (by omega) (by omega) h; omega
    · omega
theorem HR_rec {M : Mm} {hr f : Nat → Int32} {h : Nat} (H : HR M hr h) (R : Rel M 1 f) : HR (recM M h 1) (hsW hr f h) (min h 5 + 1) := by
  obtain ⟨h1, h2, h3, h4, h5⟩ := H
  unfold recM hsW
  by_cases q : h = 6
  · subst q
    have eD : hdM M 6 = dropM M := if_pos (Nat.le_refl 6)
    have eo : ∀ x, x ≠ 141 → x ≠ 142 → dropM M x = M x := fun x q1 q2 => (va_up_ne _ _ q1).trans (va_up_ne _ _ q2)
    rw [eD, if_pos rfl, show min 6 5 = 5 from rfl]
    refine HR_put (by omega) (by rw [dropM_142]; exact roF_hs h3) (by rw [dropM_142]; exact roF_inj h4) (fun j hj => ?_) (Rel_mem (fun x q1 q2 => eo x (by omega) (by omega)) R) (upd_at _ _ _)
    have hj6 := (h3 (j + 1) (by omega)).1
    have es : stP (dropM M 142) j = stP (M 142) (j + 1) := by simp only [stP, dropM_142, roF_at hj]
    rw [es]
    refine Rel_of (fun x hx => eo _ (by simp only [stP]; omega) (by simp only [stP]; omega)) (fun i hi => ?_) (h5 (j + 1) (by omega))
    show shW hr 9020 (j * 1804 + i) = hr ((j + 1) * 1804 + i)
    unfold shW
    rw [if_pos (by omega), show j * 1804 + i + 1804 = (j + 1) * 1804 + i by omega]
  · have eD : hdM M h = M := if_neg (by omega)
    rw [eD, if_neg q, show min h 5 = h by omega]
    exact HR_put (by omega) h3 h4 h5 R (upd_at _ _ _)
theorem INV_of {M N : Mm} (a1 : ∀ x, 1 ≤ x → x < 71 → N x = M x) (a2 : ∀ x, 141 ≤ x → x < 563 → N x = M x) (a3 : ∀ x, 567 ≤ x → x < 709 → N x = M x) (a4 : N 565 = M 565) (a5 : N 564 2 = M 564 2) (b0 : ∀ j, j < 1804 → N 710 j = M 710 j) (b1 : N 711 = M 711) (b2 : N 712 = M 712) (b3 : N 713 = M 713) (b4 : N 715 = M 715) (b5 : N 709 3 = M 709 3) (b6 : N 709 8 = M 709 8) (I : INV M) : INV N := by
  obtain ⟨h, L, i1, i2, i3, i4, ⟨p1, p2, p3⟩, i6⟩ := I
  refine ⟨h, L, Rel_row b0 (Rel_mem (fun x q1 q2 => a1 x q1 (by omega)) i1), by rw [b1]; exact HR_of a2 i2, b5.trans i3, by rw [b2, b3]; exact SR_of a3 i4, ⟨p1, a5.trans p2, fun j hj => by rw [a4, b4]; exact p3 j hj⟩, b6.trans i6⟩
/-- a change: the state before is recorded on both sides -/
theorem INV_chg {M U V : Mm} {h L : Nat} (i1 : Rel M 1 (M 710)) (i2 : HR M (M 711) h) (i4 : SR M (M 712) (M 713)) (hU : ∀ x, 141 ≤ x → x < 563 → U x = recM M h 1 x) (hU2 : ∀ x, 567 ≤ x → x < 709 → U x = M x) (hV : ∀ x, x < 709 → V x = U x) (b1 : V 711 = hsW (M 711) (M 710) h) (b2 : V 712 = M 712) (b3 : V 713 = M 713) (b5 : V 709 3 = nI (min h 5 + 1)) (b6 : V 709 8 = nI L) (P : PRl U (V 715) L) (R : Rel U 1 (V 710)) : INV V := by
  refine ⟨min h 5 + 1, L, Rel_mem (fun x q1 q2 => hV x (by omega)) R, ?_, b5, ?_, ?_, b6⟩
  · rw [b1]
    exact HR_of (fun x q1 q2 => (hV x (by omega)).trans (hU x q1 q2)) (HR_rec i2 i1)
  · rw [b2, b3]
    exact SR_of (fun x q1 q2 => (hV x (by omega)).trans (hU2 x q1 q2)) i4
  · obtain ⟨p1, p2, p3⟩ := P
    exact ⟨p1, by rw [hV 564 (by omega)]; exact p2, fun j hj => by rw [hV 565 (by omega)]; exact p3 j hj⟩
theorem hr_sl {M : Mm} {sl sv : Nat → Int32} (H : SR M sl sv) : (∀ s, s < 2 → ∃ n, n ≤ 20 ∧ M (567 + 71 * s + 1) 5 = nI n) ∧ (∀ s, s < 2 → ∃ n, n ≤ 20 ∧ sl (s * 1804 + 75) = nI n) := by
  refine ⟨fun s hs => ?_, fun s hs => ?_⟩
  · rcases H s hs with ⟨-, -, q, -⟩ | ⟨-, -, t, p, n, hv, hh, -⟩
    · exact ⟨0, by omega, q⟩
    · exact ⟨n, hv.2.2.2.2.2.1, hh.2.2.2.2.2.2.1.1.trans hv.2.2.2.2.2.2.1⟩
  · rcases H s hs with ⟨-, -, -, q⟩ | ⟨-, -, t, p, n, hv, hh, -⟩
    · exact ⟨0, by omega, q⟩
    · exact ⟨n, hv.2.2.2.2.2.1, hv.2.2.2.2.2.2.1⟩
/-- saved -/
theorem INV_save {M V : Mm} {s : Nat} (hs : s < 2) (I : INV M) (hV : ∀ x, x < 709 → V x = va_up (cpR M (567 + 71 * s + 1) 1) (567 + 71 * s) (upd (cpR M (567 + 71 * s + 1) 1 (567 + 71 * s)) 1 1) x) (b0 : V 710 = M 710) (b1 : V 711 = M 711) (b2 : V 712 = wrW (M 712) (s * 1804) (M 710) 1804) (b3 : V 713 = upd (M 713) s 1) (b4 : V 715 = M 715) (b5 : V 709 3 = M 709 3) (b6 : V 709 8 = M 709 8) : INV V := by
  obtain ⟨h, L, i1, i2, i3, i4, ⟨p1, p2, p3⟩, i6⟩ := I
  have e : ∀ x, x < 709 → x ≠ 567 + 71 * s → (x < 567 + 71 * s + 1 ∨ 567 + 71 * s + 1 + 70 ≤ x) → V x = M x := fun x q1 q2 q3 => (hV x q1).trans ((va_up_ne _ _ q2).trans (cpR_out q3))
  have e1 : V (567 + 71 * s) 1 = 1 := by rw [hV _ (by omega), va_up_self, upd_at]
  refine ⟨h, L, by rw [b0]; exact Rel_mem (fun x q1 q2 => e x (by omega) (by omega) (by omega)) i1, by rw [b1]; exact HR_of (fun x q1 q2 => e x (by omega) (by omega) (by omega)) i2, b5.trans i3, ?_, ⟨p1, by rw [e 564 (by omega) (by omega) (by omega)]; exact p2, fun j hj => by rw [e 565 (by omega) (by omega) (by omega), b4]; exact p3 j hj⟩, b6.trans i6⟩
  intro a ha
  rw [b2, b3]
  by_cases q : a = s
  · subst q
    refine Or.inr ⟨e1, upd_at _ _ _, Rel_of (fun x hx => ?_) (fun j hj => ?_) i1⟩
    · rw [hV _ (by omega), va_up_ne _ _ (by omega), cpR_in (by omega), show 1 + (567 + 71 * a + 1 + x - (567 + 71 * a + 1)) = 1 + x by omega]
    · show wrW (M 712) (a * 1804) (M 710) 1804 (a * 1804 + j) = M 710 j
      unfold wrW
      rw [if_pos (by omega), show a * 1804 + j - a * 1804 = j by omega]
  · have hw : ∀ j, j < 1804 → wrW (M 712) (s * 1804) (M 710) 1804 (a * 1804 + j) = M 712 (a * 1804 + j) := fun j hj => by unfold wrW; rw [if_neg (by omega)]
    rw [e (567 + 71 * a) (by omega) (by omega) (by omega), e (567 + 71 * a + 1) (by omega) (by omega) (by omega), upd_ne _ _ q, hw 75 (by omega)]
    rcases i4 a ha with w | ⟨w1, w2, w3⟩
    · exact Or.inl w
    · exact Or.inr ⟨w1, w2, Rel_of (fun x hx => e _ (by omega) (by omega) (by omega)) (fun j hj => hw j hj) w3⟩
/-- undone -/
theorem INV_undo {M V : Mm} {h L : Nat} (hh1 : 1 ≤ h) (i2 : HR M (M 711) h) (i4 : SR M (M 712) (M 713)) (P : PRl M (M 715) L) (i6 : M 709 8 = nI L) (hV : ∀ x, x < 709 → V x = gbM M h 1 x) (b0 : V 710 = cpW (M 710) (rwA (M 711) (h - 1)) 1804) (b1 : V 711 = M 711) (b2 : V 712 = M 712) (b3 : V 713 = M 713) (b4 : V 715 = M 715) (b5 : V 709 3 = nI (h - 1)) (b6 : V 709 8 = M 709 8) : INV V := by
  obtain ⟨h1, h2, h3, h4, h5⟩ := i2
  have h6 := (h3 (h - 1) (by omega)).1
  have e : ∀ x, x < 709 → 71 ≤ x → x ≠ 141 → V x = M x := fun x q1 q2 q3 => (hV x q1).trans ((cpR_out (by omega)).trans (va_up_ne _ _ q3))
  have e141 : V 141 1 = nI (h - 1) := by
    rw [hV 141 (by omega)]
    unfold gbM
    rw [cpR_out (by omega), va_up_self, upd_at]
  have e142 : V 142 = M 142 := e 142 (by omega) (by omega) (by omega)
  obtain ⟨p1, p2, p3⟩ := P
  refine ⟨h - 1, L, ?_, ⟨by omega, e141, by rw [e142]; exact h3, by rw [e142]; exact h4, fun j hj => ?_⟩, b5, ?_, ⟨p1, by rw [e 564 (by omega) (by omega) (by omega)]; exact p2, fun j hj => by rw [e 565 (by omega) (by omega) (by omega), b4]; exact p3 j hj⟩, b6.trans i6⟩
  · rw [b0]
    refine Rel_of (fun x hx => ?_) (fun j hj => ?_) (h5 (h - 1) (by omega))
    · rw [hV _ (by omega)]
      unfold gbM
      rw [cpR_in (by omega), show stP (M 142) (h - 1) + (1 + x - 1) = stP (M 142) (h - 1) + x by omega, va_up_ne _ _ (by simp only [stP]; omega)]
    · unfold cpW; rw [if_pos hj]
  · have h7 := (h3 j (by omega)).1
    rw [b1, e142]
    exact Rel_of (fun x hx => e _ (by simp only [stP]; omega) (by simp only [stP]; omega) (by simp only [stP]; omega)) (fun _ _ => rfl) (h5 j (by omega))
  · rw [b2, b3]
    exact SR_of (fun x q1 q2 => e x (by omega) (by omega) (by omega)) i4
