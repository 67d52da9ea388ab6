theorem in_k {c n : Nat} (h : c ≤ n) (hn : n < 1000) : 0 ≤ nI c ∧ nI c ≤ nI n := ⟨nI_pos' (by omega), (nI_leI (by omega) (by omega)).mpr h⟩

theorem inrx {x : Int32} {k n : Nat} (e : x = nI k) (h1 : 1 ≤ k) (h2 : k ≤ n) (hn : n < 1000) : 1 ≤ x ∧ x ≤ nI n := by rw [e]; exact ⟨nI_le (a := 1) h1 (by omega), nI_le h2 (by omega)⟩
theorem innx {x : Int32} {e n : Nat} (hn : n ≤ 20) (ex : x = nI e) (h : e < n) : 0 ≤ x ∧ x < nI n ∧ x < 20 := by rw [ex]; exact ⟨nI_pos' (by omega), nI_lt h (by omega), (nI_ltI (a := e) (b := 20) (by omega) (by omega)).mpr (by omega)⟩
theorem sameN {x : Int32} {a b : Nat} (ha : a < 1000) (hb : b < 1000) (e1 : x = nI a) (e2 : x = nI b) : a = b := nI_inj (by omega) (by omega) (e1.symm.trans e2)
/-! what the law's questions answer, by the row f -/
theorem stoC_congr {g h : Nat → Int32} (e2 : g 2 = h 2) (e3 : g 3 = h 3) (x : Int32) : stoC g x = stoC h x := by unfold stoC; rw [e2, e3]
def stF (f : Nat → Int32) (c : Nat) (x : Int32) : Int32 := stoC (fun j => if j = 3 then f (24 + c) else f (16 + c)) x
theorem cntR_n (f : Nat → Int32) (y : Int32) : ∀ n, cntR f y n = nI (cntN f y n) := by
  intro n
  induction n with
  | zero => rfl
  | succ n ih =>
    show cntR f y n + (if f n < y then 0 else 1) = nI (cntN f y n + (if f n < y then 0 else 1))
    rw [ih]
    split
    · exact nI_add _ 0
    · exact nI_add _ 1
theorem cnt_cut {f : Nat → Int32} {y : Int32} {t : Nat} : ∀ d, (∀ j, t ≤ j → j < t + d → f j < y) → cntN f y (t + d) = cntN f y t := by
  intro d
  induction d with
  | zero => intro _; rfl
  | succ d ih =>
    intro h
    show cntN f y (t + d) + (if f (t + d) < y then 0 else 1) = _
    rw [if_pos (h (t + d) (by omega) (by omega)), ih (fun j h1 h2 => h j h1 (by omega))]; rfl
theorem LN_cut {f : Nat → Int32} {y : Int32} {t : Nat} : ∀ d, (∀ j, t ≤ j → j < t + d → f j < y) → LN f y (t + d) = LN f y t := by
  intro d
  induction d with
  | zero => intro _; rfl
  | succ d ih =>
    intro h
    show max (LN f y (t + d)) (if f (t + d) < y then 0 else upR f y (t + d) + 1) = _
    rw [if_pos (h (t + d) (by omega) (by omega)), ih (fun j h1 h2 => h j h1 (by omega))]
    exact Nat.max_eq_left (Nat.zero_le _)
theorem m1_lt (y : Nat) (hy : y < 1000) : (-1 : Int32) < nI y := Int32.lt_of_lt_of_le (show (-1 : Int32) < 0 by decide) (nI_pos' (by omega))
theorem cnt_row {f : Nat → Int32} {t n c y : Nat} (z : RZ f t n) (ht : t < 96) (hc : c < 8) (hy : y < 6) : cntR (rgR f c) (nI y) 96 = nI (cntN (rgR f c) (nI y) t) := by
  rw [cntR_n]
  refine congrArg nI ?_
  have h := cnt_cut (f := rgR f c) (y := nI y) (t := t) (96 - t) (fun j h1 h2 => by show f (172 + 96 * c + j) < nI y; rw [z.2.2.1 c hc j h1 (by omega)]; exact m1_lt y (by omega))
  rw [show t + (96 - t) = 96 by omega] at h
  exact h
theorem lon_row {f : Nat → Int32} {t n c y : Nat} (z : RZ f t n) (ht : t < 96) (hc : c < 8) (hy : y < 6) : lonR (rgR f c) (nI y) 96 = nI (LN (rgR f c) (nI y) t) := by
  rw [lonR_LN _ _ 96 (by omega)]
  refine congrArg nI ?_
  have h := LN_cut (f := rgR f c) (y := nI y) (t := t) (96 - t) (fun j h1 h2 => by show f (172 + 96 * c + j) < nI y; rw [z.2.2.1 c hc j h1 (by omega)]; exact m1_lt y (by omega))
  rw [show t + (96 - t) = 96 by omega] at h
  exact h
/-- the accounts of fines -/
def AC (f : Nat → Int32) (n : Nat) : Prop := ∀ c, c < 8 → f (76 + c) - f (84 + c) = finR f (nI c) n
theorem in95 {y : Nat} (h : y < 96) : (0 : Int32) ≤ nI y ∧ nI y ≤ 95 := in_k (n := 95) (by omega) (by decide)
theorem in5q {y : Nat} (h : y < 6) : (0 : Int32) ≤ nI y ∧ nI y ≤ 5 := in_k (n := 5) (by omega) (by decide)
theorem in23 {y : Nat} (h : y < 24) : (0 : Int32) ≤ nI y ∧ nI y ≤ 23 := in_k (n := 23) (by omega) (by decide)
theorem in2q {y : Nat} (h : y < 3) : (0 : Int32) ≤ nI y ∧ nI y ≤ 2 := in_k (n := 2) (by omega) (by decide)

theorem A_shadeOf (l : Launch) (hls : l.stackTraces = false) {M : Mm} {f : Nat → Int32} {t p n : Nat} (hv : RV f t p n) (hh : Rl M 1 f t n) (z : RZ f t n) {c y : Nat} (hc : c < 8) (hy : y < 96) : Ct l yL_shadeOf wsL_shadeOf rmL_shadeOf (fun B => [.ref (B + 0), .int (nI c), .int (nI y)]) M (fun _ v u => v = some (.int (shR f c (nI y))) ∧ u = M) := by
  refine Ct.imp (kL_shadeOf l _ _ (kX8_shadeOf l hls _ _) (fun B v u ⟨c2, _, _, _, e, _⟩ => ⟨_, e⟩) (fun E u q => q.elim (fun w => Or.inl w.1) (fun w => Or.inr w.1))) (fun B v u h8 => ?_)
  rcases h8 with ⟨c2, hc2, ex, -, e, eu⟩ | ⟨-, q | q⟩ | ⟨-, q | q⟩
  · obtain rfl := sameN (by omega) (by omega) (x := nI c) rfl ex
    obtain rfl := eu.symm
    exact ⟨by rw [e, Rl_sh hh z hc (by omega)], rfl⟩
  · exact absurd (in7 hc) q.2.1
  · exact absurd q.1 n_IA
  · exact absurd q.1 n_AI
  · exact absurd (in95 hy) q.2.2.1
theorem A_nextStoking (l : Launch) (hls : l.stackTraces = false) {M : Mm} {f : Nat → Int32} {t p n : Nat} (hv : RV f t p n) (hh : Rl M 1 f t n) (z : RZ f t n) {c : Nat} (hc : c < 8) : Ct l yL_nextStoking wsL_nextStoking rmL_nextStoking (fun B => [.ref (B + 0), .int (nI c), .int 0]) M (fun _ v u => v = some (.int (stF f c 0)) ∧ u = M) := by
  refine Ct.imp (kL_nextStoking l _ _ (kX8_nextStoking l hls _ _) (fun B v u ⟨c2, _, _, _, e, _⟩ => ⟨_, e⟩) (fun E u q => q.elim (fun w => Or.inl w.1) (fun w => Or.inr w.1))) (fun B v u h8 => ?_)
  rcases h8 with ⟨c2, hc2, ex, -, e, eu⟩ | ⟨-, q | q⟩ | ⟨-, q | q⟩
  · obtain rfl := sameN (by omega) (by omega) (x := nI c) rfl ex
    obtain rfl := eu.symm
    exact ⟨by rw [e, show stoC (M (chP 1 c)) 0 = stF f c 0 from stoC_congr (hh.1 c hc).2.2.1 (hh.1 c hc).2.2.2.1 0], rfl⟩
  · exact absurd (in7 hc) q.2.1
  · exact absurd q.1 n_IA
  · exact absurd q.1 n_AI
  · exact absurd ⟨by decide, by decide⟩ q.2.2.1
theorem A_readingOf (l : Launch) (hls : l.stackTraces = false) {M : Mm} {f : Nat → Int32} {t p n : Nat} (hv : RV f t p n) (hh : Rl M 1 f t n) (z : RZ f t n) {c y : Nat} (hc : c < 8) (hy : y < 96) : Ct l yL_readingOf wsL_readingOf rmL_readingOf (fun B => [.ref (B + 0), .int (nI c), .int (nI y)]) M (fun _ v u => v = some (.int (f (172 + 96 * c + y))) ∧ u = M) := by
  refine Ct.imp (kL_readingOf l _ _ (kX8_readingOf l hls _ _) (fun B v u ⟨c2, _, _, _, e, _⟩ => ⟨_, e⟩) (fun E u q => q.elim (fun w => Or.inl w.1) (fun w => Or.inr w.1))) (fun B v u h8 => ?_)
  rcases h8 with ⟨c2, hc2, ex, -, e, eu⟩ | ⟨-, q | q⟩ | ⟨-, q | q⟩
  · obtain rfl := sameN (by omega) (by omega) (x := nI c) rfl ex
    obtain rfl := eu.symm
    exact ⟨by rw [e, atF_k _ hy, hh.2.1 c hc y hy], rfl⟩
  · exact absurd (in7 hc) q.2.1
  · exact absurd q.1 n_IA
  · exact absurd q.1 n_AI
  · exact absurd (in95 hy) q.2.2.1
theorem A_readingsFrom (l : Launch) (hls : l.stackTraces = false) {M : Mm} {f : Nat → Int32} {t p n : Nat} (hv : RV f t p n) (hh : Rl M 1 f t n) (z : RZ f t n) {c y : Nat} (hc : c < 8) (hy : y < 6) : Ct l yL_readingsFrom wsL_readingsFrom rmL_readingsFrom (fun B => [.ref (B + 0), .int (nI c), .int (nI y)]) M (fun _ v u => v = some (.int (cntR (rgR f c) (nI y) 96)) ∧ u = M) := by
  refine Ct.imp (kL_readingsFrom l _ _ (kX8_readingsFrom l hls _ _) (fun B v u ⟨c2, _, _, _, e, _⟩ => ⟨_, e⟩) (fun E u q => q.elim (fun w => Or.inl w.1) (fun w => Or.inr w.1))) (fun B v u h8 => ?_)
  rcases h8 with ⟨c2, hc2, ex, -, e, eu⟩ | ⟨-, q | q⟩ | ⟨-, q | q⟩
  · obtain rfl := sameN (by omega) (by omega) (x := nI c) rfl ex
    obtain rfl := eu.symm
    exact ⟨by rw [e, cnt_eq (g := rgR f c) (nI y) 96 (fun j hj => hh.2.1 c hc j hj)], rfl⟩
  · exact absurd (in7 hc) q.2.1
  · exact absurd q.1 n_IA
  · exact absurd q.1 n_AI
  · exact absurd (in5q hy) q.2.2.1
theorem A_longestRow (l : Launch) (hls : l.stackTraces = false) {M : Mm} {f : Nat → Int32} {t p n : Nat} (hv : RV f t p n) (hh : Rl M 1 f t n) (z : RZ f t n) {c y : Nat} (hc : c < 8) (hy : y < 6) (b : Int32) : Ct l yL_longestRow wsL_longestRow rmL_longestRow (fun B => [.ref (B + 0), .int (nI c), .int (nI y), .int b]) M (fun _ v u => v = some (.int (lonR (rgR f c) (nI y) 96)) ∧ u = M) := by
  refine Ct.imp (kL_longestRow l _ _ _ (kX8_longestRow l hls _ _ _) (fun B v u ⟨c2, _, _, _, e, _⟩ => ⟨_, e⟩) (fun E u q => q.elim (fun w => Or.inl w.1) (fun w => Or.inr w.1))) (fun B v u h8 => ?_)
  rcases h8 with ⟨c2, hc2, ex, -, e, eu⟩ | ⟨-, q | q⟩ | ⟨-, q | q⟩
  · obtain rfl := sameN (by omega) (by omega) (x := nI c) rfl ex
    obtain rfl := eu.symm
    refine ⟨?_, rfl⟩
    rw [e]
    by_cases hb : b = 0
    · rw [if_pos hb, lng_eq (g := rgR f c) (nI y) 96 (fun j hj => hh.2.1 c hc j hj)]
    · rw [if_neg hb, lngR_eq (g := rgR f c) (nI y) (fun j hj => hh.2.1 c hc j hj)]
  · exact absurd (in7 hc) q.2.1
  · exact absurd q.1 n_IA
  · exact absurd q.1 n_AI
  · exact absurd (in5q hy) q.2.2.1
theorem A_smoke (l : Launch) (hls : l.stackTraces = false) {M : Mm} {f : Nat → Int32} {t p n : Nat} (hv : RV f t p n) (hh : Rl M 1 f t n) (z : RZ f t n) {c : Nat} (hc : c < 8) : Ct l yL_smoke wsL_smoke rmL_smoke (fun B => [.ref (B + 0), .int (nI c), .int 0, .int 95, .int 0]) M (fun _ v u => v = some (.int (sumF (fun j => shR f c (nI j)) 0 96)) ∧ u = M) := by
  have hTG : ∀ c, c < 8 → ∃ t g, 2 ≤ t ∧ t ≤ 12 ∧ g ≤ 11 ∧ M (chP 1 c) 2 = nI t ∧ M (chP 1 c) 3 = nI g := fun c hc => by
    obtain ⟨a, b, w1, w2, w3, w4, w5⟩ := z.2.1 c hc
    obtain ⟨-, -, q2, q3, -, -⟩ := hh.1 c hc
    exact ⟨a, b, w1, w2, w3, q2.trans w4, q3.trans w5⟩
  refine Ct.imp (kL_smoke l _ _ _ _ (kX8_smoke l hls hTG _ _ _ _) (fun B v u ⟨c, a, b, _, _, _, _, _, _, t, g, _, e, _⟩ => ⟨_, e⟩) (fun E u q => q.elim (fun w => Or.inl w.1) (fun w => Or.inr w.1))) (fun B v u h8 => ?_)
  rcases h8 with ⟨c2, a, b, hc2, ex, hab, hb, ey, ez, T, g, ⟨g1, g2, g3, g4, g5⟩, e, eu⟩ | ⟨-, q | q⟩ | ⟨-, q | q⟩
  · obtain rfl := sameN (by omega) (by omega) (x := nI c) rfl ex
    obtain rfl := sameN (a := 0) (by omega) (by omega) (x := 0) rfl ey
    obtain rfl := sameN (a := 95) (by omega) (by omega) (x := 95) rfl ez
    obtain rfl := eu.symm
    refine ⟨?_, rfl⟩
    rw [e, if_pos rfl]
    exact congrArg (fun q => some (Value.int q)) (sumF_congr 0 _ (fun j q1 q2 => Rl_sh hh z hc (by omega)))
  · exact absurd (in7 hc) q.2.1
  · exact absurd q.1 n_IA
  · exact absurd q.1 n_AI
  · exact absurd ⟨⟨by decide, by decide⟩, by decide, by decide⟩ q.2.2.1
theorem A_finesOf (l : Launch) (hls : l.stackTraces = false) {M : Mm} {f : Nat → Int32} {t p n : Nat} (hv : RV f t p n) (hh : Rl M 1 f t n) (z : RZ f t n) (ac : AC f n) {c : Nat} (hc : c < 8) (b : Int32) : Ct l yL_finesOf wsL_finesOf rmL_finesOf (fun B => [.ref (B + 0), .int (nI c), .int b]) M (fun _ v u => v = some (.int (finR f (nI c) n)) ∧ u = M) := by
  have hn := hv.2.2.2.2.2.1
  have e5 : M 1 5 = nI n := hh.2.2.2.2.2.2.1.1.trans hv.2.2.2.2.2.2.1
  refine Ct.imp (kL_finesOf l _ _ (kX8_finesOf l hls e5 hn _ _) (fun B v u ⟨c2, _, _, e, _⟩ => ⟨_, e⟩) (fun E u q => q.1)) (fun B v u h8 => ?_)
  rcases h8 with ⟨c2, hc2, ex, e, eu⟩ | ⟨-, q⟩
  · obtain rfl := sameN (by omega) (by omega) (x := nI c) rfl ex
    obtain rfl := eu.symm
    refine ⟨?_, rfl⟩
    rw [e]
    by_cases hb : b = 0
    · rw [if_pos hb, fin_eq hh.2.2.2.2.2.2.2 (nI c) n (Nat.le_refl n)]
    · rw [if_neg hb, (hh.1 c hc).2.2.2.2.1, (hh.1 c hc).2.2.2.2.2, ac c hc]
  · exact absurd (in7 hc) q.2.1
theorem A_greyOf (l : Launch) (hls : l.stackTraces = false) {M : Mm} {f : Nat → Int32} {t p n : Nat} (hv : RV f t p n) (hh : Rl M 1 f t n) (z : RZ f t n) {y : Nat} (hy : y < 24) : Ct l yL_greyOf wsL_greyOf rmL_greyOf (fun B => [.ref (B + 0), .int (nI y)]) M (fun _ v u => v = some (.int (f (32 + y))) ∧ u = M) := by
  refine Ct.imp (kL_greyOf l _ (kX8_greyOf l hls _) (fun B v u ⟨_, e, _⟩ => ⟨_, e⟩) (fun E u q => q.1)) (fun B v u h8 => ?_)
  rcases h8 with ⟨-, e, eu⟩ | ⟨-, q⟩
  · obtain rfl := eu.symm
    exact ⟨by rw [e, gyF_k _ hy, hh.2.2.2.2.1 y hy], rfl⟩
  · exact absurd (in23 hy) q.2.1
theorem A_watchedBy (l : Launch) (hls : l.stackTraces = false) {M : Mm} {f : Nat → Int32} {t p n : Nat} (hv : RV f t p n) (hh : Rl M 1 f t n) (z : RZ f t n) {e : Nat} (he : e < 3) : Ct l yL_watchedBy wsL_watchedBy rmL_watchedBy (fun B => [.ref (B + 0), .int (nI e)]) M (fun _ v u => v = some (.int (f (62 + e))) ∧ u = M) := by
  refine Ct.imp (kL_watchedBy l _ (kX8_watchedBy l hls _) (fun B v u ⟨_, _, _, e, _⟩ => ⟨_, e⟩) (fun E u q => q.1)) (fun B v u h8 => ?_)
  rcases h8 with ⟨c2, hc2, ex, ee, eu⟩ | ⟨-, q⟩
  · obtain rfl := sameN (by omega) (by omega) (x := nI e) rfl ex
    obtain rfl := eu.symm
    exact ⟨by rw [ee, (hh.2.2.2.1 e he).1], rfl⟩
  · exact absurd (in2q he) q.2.1
theorem A_tirednessOf (l : Launch) (hls : l.stackTraces = false) {M : Mm} {f : Nat → Int32} {t p n : Nat} (hv : RV f t p n) (hh : Rl M 1 f t n) (z : RZ f t n) {e : Nat} (he : e < 3) : Ct l yL_tirednessOf wsL_tirednessOf rmL_tirednessOf (fun B => [.ref (B + 0), .int (nI e)]) M (fun _ v u => v = some (.int (f (59 + e))) ∧ u = M) := by
  refine Ct.imp (kL_tirednessOf l _ (kX8_tirednessOf l hls _) (fun B v u ⟨_, _, _, e, _⟩ => ⟨_, e⟩) (fun E u q => q.1)) (fun B v u h8 => ?_)
  rcases h8 with ⟨c2, hc2, ex, ee, eu⟩ | ⟨-, q⟩
  · obtain rfl := sameN (by omega) (by omega) (x := nI e) rfl ex
    obtain rfl := eu.symm
    exact ⟨by rw [ee, (hh.2.2.2.1 e he).2.2.1], rfl⟩
  · exact absurd (in2q he) q.2.1
theorem A_errorsOf (l : Launch) (hls : l.stackTraces = false) {M : Mm} {f : Nat → Int32} {t p n : Nat} (hv : RV f t p n) (hh : Rl M 1 f t n) (z : RZ f t n) {e : Nat} (he : e < 3) : Ct l yL_errorsOf wsL_errorsOf rmL_errorsOf (fun B => [.ref (B + 0), .int (nI e)]) M (fun _ v u => v = some (.int (f (65 + e))) ∧ u = M) := by
  refine Ct.imp (kL_errorsOf l _ (kX8_errorsOf l hls _) (fun B v u ⟨_, _, _, e, _⟩ => ⟨_, e⟩) (fun E u q => q.1)) (fun B v u h8 => ?_)
  rcases h8 with ⟨c2, hc2, ex, ee, eu⟩ | ⟨-, q⟩
  · obtain rfl := sameN (by omega) (by omega) (x := nI e) rfl ex
    obtain rfl := eu.symm
    exact ⟨by rw [ee, (hh.2.2.2.1 e he).2.2.2.1], rfl⟩
  · exact absurd (in2q he) q.2.1
theorem A_wouldRead (l : Launch) (hls : l.stackTraces = false) {M : Mm} {f : Nat → Int32} {t p n : Nat} (hv : RV f t p n) (hh : Rl M 1 f t n) (z : RZ f t n) {e c : Nat} (he : e < 3) (hc : c < 8) : Ct l yL_wouldRead wsL_wouldRead rmL_wouldRead (fun B => [.ref (B + 0), .int (nI e), .int (nI c)]) M (fun _ v u => v = some (.int (rdgR f t e c)) ∧ u = M) := by
  have e9 : M 1 9 = nI t := hh.2.2.2.2.2.2.1.2.2.2.2.trans hv.2.1
  refine Ct.imp (kL_wouldRead l _ _ (kX8_wouldRead l hls _ _) (fun B v u ⟨_, _, _, _, _, _, e, _⟩ => ⟨_, e⟩) (fun E u q => q.1)) (fun B v u h8 => ?_)
  rcases h8 with ⟨k2, hk2, ex, c2, hc2, ey, ee, eu⟩ | ⟨-, q⟩
  · obtain rfl := sameN (by omega) (by omega) (x := nI e) rfl ex
    obtain rfl := sameN (by omega) (by omega) (x := nI c) rfl ey
    obtain rfl := eu.symm
    exact ⟨by rw [ee, e9, Rl_sh hh z hc (by have := hv.1; omega), gyF_gr hh.2.2.2.2.1 hv.1, rdC_rdg hh.2.2.2.1 he hv.2.1], rfl⟩
  · exact absurd ⟨in2q he, in7 hc⟩ q.2.1
theorem A_chimneyOf (l : Launch) (hls : l.stackTraces = false) {M : Mm} {f : Nat → Int32} {t p n : Nat} (hv : RV f t p n) (hh : Rl M 1 f t n) (z : RZ f t n) {e : Nat} (he : e < n) : Ct l yL_chimneyOf wsL_chimneyOf rmL_chimneyOf (fun B => [.ref (B + 0), .int (nI e)]) M (fun _ v u => v = some (.int (f (92 + e))) ∧ u = M) := by
  have hn := hv.2.2.2.2.2.1
  have e5 : M 1 5 = nI n := hh.2.2.2.2.2.2.1.1.trans hv.2.2.2.2.2.2.1
  refine Ct.imp (kL_chimneyOf l _ (kX8_chimneyOf l hls e5 hn _) (fun B v u ⟨_, _, _, e, _⟩ => ⟨_, e⟩) (fun E u q => q.1)) (fun B v u h8 => ?_)
  rcases h8 with ⟨c2, hc2, ex, ee, eu⟩ | ⟨-, q⟩
  · obtain rfl := sameN (by omega) (by omega) (x := nI e) rfl ex
    obtain rfl := eu.symm
    exact ⟨by rw [ee, (hh.2.2.2.2.2.2.2 e he).1], rfl⟩
  · exact absurd (innx hn rfl he) q.2.1
theorem A_fineOf (l : Launch) (hls : l.stackTraces = false) {M : Mm} {f : Nat → Int32} {t p n : Nat} (hv : RV f t p n) (hh : Rl M 1 f t n) (z : RZ f t n) {e : Nat} (he : e < n) : Ct l yL_fineOf wsL_fineOf rmL_fineOf (fun B => [.ref (B + 0), .int (nI e)]) M (fun _ v u => v = some (.int (f (112 + e))) ∧ u = M) := by
  have hn := hv.2.2.2.2.2.1
  have e5 : M 1 5 = nI n := hh.2.2.2.2.2.2.1.1.trans hv.2.2.2.2.2.2.1
  refine Ct.imp (kL_fineOf l _ (kX8_fineOf l hls e5 hn _) (fun B v u ⟨_, _, _, e, _⟩ => ⟨_, e⟩) (fun E u q => q.1)) (fun B v u h8 => ?_)
  rcases h8 with ⟨c2, hc2, ex, ee, eu⟩ | ⟨-, q⟩
  · obtain rfl := sameN (by omega) (by omega) (x := nI e) rfl ex
    obtain rfl := eu.symm
    exact ⟨by rw [ee, (hh.2.2.2.2.2.2.2 e he).2.1], rfl⟩
  · exact absurd (innx hn rfl he) q.2.1
theorem A_wouldAppeal (l : Launch) (hls : l.stackTraces = false) {M : Mm} {f : Nat → Int32} {t p n : Nat} (hv : RV f t p n) (hh : Rl M 1 f t n) (z : RZ f t n) {e : Nat} (he : e < n) : Ct l yL_wouldAppeal wsL_wouldAppeal rmL_wouldAppeal (fun B => [.ref (B + 0), .int (nI e)]) M (fun _ v u => v = some (.int (if 0 < f (132 + e) then 3 else f (152 + e))) ∧ u = M) := by
  have hn := hv.2.2.2.2.2.1
  have e5 : M 1 5 = nI n := hh.2.2.2.2.2.2.1.1.trans hv.2.2.2.2.2.2.1
  refine Ct.imp (kL_wouldAppeal l _ (kX8_wouldAppeal l hls e5 hn _) (fun B v u ⟨_, _, _, e, _⟩ => ⟨_, e⟩) (fun E u q => q.1)) (fun B v u h8 => ?_)
  rcases h8 with ⟨c2, hc2, ex, ee, eu⟩ | ⟨-, q⟩
  · obtain rfl := sameN (by omega) (by omega) (x := nI e) rfl ex
    obtain rfl := eu.symm
    exact ⟨by rw [ee, out_eq hh.2.2.2.2.2.2.2 he], rfl⟩
  · exact absurd (innx hn rfl he) q.2.1
theorem A_stands (l : Launch) (hls : l.stackTraces = false) {M : Mm} {f : Nat → Int32} {t p n : Nat} (hv : RV f t p n) (hh : Rl M 1 f t n) (z : RZ f t n) {e : Nat} (he : e < n) : Ct l yL_stands wsL_stands rmL_stands (fun B => [.ref (B + 0), .int (nI e)]) M (fun _ v u => v = some (.int (if f (132 + e) < 2 then 1 else 0)) ∧ u = M) := by
  have hn := hv.2.2.2.2.2.1
  have e5 : M 1 5 = nI n := hh.2.2.2.2.2.2.1.1.trans hv.2.2.2.2.2.2.1
  refine Ct.imp (kL_stands l _ (kX8_stands l hls e5 hn _) (fun B v u ⟨_, _, _, e, _⟩ => ⟨_, e⟩) (fun E u q => q.1)) (fun B v u h8 => ?_)
  rcases h8 with ⟨x, ⟨c2, hc2, ex, ee, eu⟩, ev⟩ | ⟨-, q⟩
  · obtain rfl := sameN (by omega) (by omega) (x := nI e) rfl ex
    obtain rfl := eu.symm
    refine ⟨?_, rfl⟩
    cases ee
    rw [ev, std_eq hh.2.2.2.2.2.2.2 he]
    by_cases h2 : f (132 + e) < 2
    · rw [if_pos h2]; rfl
    · rw [if_neg h2]; rfl
  · exact absurd (innx hn rfl he) q.2.1
theorem A_time (l : Launch) {M : Mm} {f : Nat → Int32} {t n : Nat} (hh : Rl M 1 f t n) : Ct l yX8_time wsX8_time rmX8_time (fun B => [.ref (B + 0)]) M (fun _ v u => v = some (.int (96 * f 73 + f 74)) ∧ u = M) := Ct.imp (kX8_time l) (fun B v u h8 => ⟨by rw [h8.1, hh.2.2.2.2.2.2.1.2.2.2.1, hh.2.2.2.2.2.2.1.2.2.2.2], h8.2⟩)
theorem A_notices (l : Launch) {M : Mm} {f : Nat → Int32} {t n : Nat} (hh : Rl M 1 f t n) : Ct l yX8_notices wsX8_notices rmX8_notices (fun B => [.ref (B + 0)]) M (fun _ v u => v = some (.int (f 75)) ∧ u = M) := Ct.imp (kX8_notices l) (fun B v u h8 => ⟨by rw [h8.1, hh.2.2.2.2.2.2.1.1], h8.2⟩)
