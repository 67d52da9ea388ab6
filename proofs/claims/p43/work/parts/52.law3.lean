/-! a tick on the row, told by its parts; the law's arrays against it -/
def ERR (f : Nat → Int32) (t e : Nat) : Int32 := if f (62 + e) = -1 then 0 else absI (rdgR f t e (f (62 + e)).toNatClampNeg - shR f (f (62 + e)).toNatClampNeg (nI t))
theorem rdgR_congr {f g : Nat → Int32} {t k c : Nat} (hk : k < 3) (hc : c < 8) (ht : t < 96) (h : ∀ j, j < 62 ∨ j = 74 → g j = f j) : rdgR g t k c = rdgR f t k c := by
  have e1 : shR g c (f 74) = shR f c (f 74) := shR_congr hc (fun j hj => h j (by omega)) _
  unfold rdgR tldR
  rw [h 74 (by omega), e1, h (32 + t / 4) (by omega), h (56 + k) (by omega), h (59 + k) (by omega)]
theorem RDF_ge (f : Nat → Int32) (t k : Nat) : ∀ e, (-1 : Int32) ≤ RDF f t k e := by
  intro e
  induction e with
  | zero => exact Int32.le_iff_toInt_le.mpr (Int.le_refl _)
  | succ e ih =>
    show (-1 : Int32) ≤ mxI (RDF f t k e) (if f (62 + e) = nI k then rdgR f t e k else -1)
    generalize (if f (62 + e) = nI k then rdgR f t e k else -1) = x9
    unfold mxI
    by_cases h : RDF f t k e < x9
    · rw [if_pos h]; rw [Int32.le_iff_toInt_le] at ih ⊢; rw [Int32.lt_iff_toInt_lt] at h; omega
    · rw [if_neg h]; exact ih
theorem nI_no1 {c : Nat} (hc : c < 8) : ¬ (-1 : Int32) = nI c := fun z => nI_ne1 (by omega) z.symm
theorem RDF_no {f : Nat → Int32} {t k e : Nat} (h : ¬ f (62 + e) = nI k) : RDF f t k (e + 1) = RDF f t k e := by
  show mxI (RDF f t k e) (if f (62 + e) = nI k then rdgR f t e k else -1) = _
  rw [if_neg h, mx_le (RDF_ge f t k e)]
theorem wa_all {f : Nat → Int32} {t : Nat} (h74 : f 74 = nI t) (ht : t < 96) (hW : ∀ e, e < 3 → f (62 + e) = -1 ∨ ∃ c, c < 8 ∧ f (62 + e) = nI c) (h0 : ∀ c, c < 8 → f (172 + 96 * c + t) = -1) : ∀ k, k ≤ 3 → (∀ c, c < 8 → ∀ s, s < 96 → waI (ndR f t 8) t k (172 + 96 * c + s) = if s = t then RDF f t c k else f (172 + 96 * c + s)) ∧ (∀ e, e < 3 → waI (ndR f t 8) t k (65 + e) = if e < k then f (65 + e) + ERR f t e else f (65 + e)) ∧ (∀ j, j < 65 ∨ 71 ≤ j ∧ j < 172 ∨ 940 ≤ j → waI (ndR f t 8) t k j = ndR f t 8 j) := by
  intro k
  induction k with
  | zero =>
    intro _
    refine ⟨fun c hc s hs => ?_, fun e he => ?_, fun j _ => rfl⟩
    · show ndR f t 8 (172 + 96 * c + s) = _
      rw [ndR_lo f t (by omega)]
      by_cases h : s = t
      · rw [if_pos h, h, h0 c hc]; rfl
      · rw [if_neg h]
    · show ndR f t 8 (65 + e) = _
      rw [ndR_lo f t (by omega), if_neg (by omega)]
  | succ k ih =>
    intro hk
    obtain ⟨a1, a2, a3⟩ := ih (by omega)
    show (∀ c, c < 8 → ∀ s, s < 96 → waR (waI (ndR f t 8) t k) t k (172 + 96 * c + s) = _) ∧ (∀ e, e < 3 → waR (waI (ndR f t 8) t k) t k (65 + e) = _) ∧ (∀ j, _ → waR (waI (ndR f t 8) t k) t k j = _)
    generalize waI (ndR f t 8) t k = w at a1 a2 a3 ⊢
    have a4 : ∀ j, j < 65 ∨ 71 ≤ j ∧ j < 172 → w j = f j := fun j hj => (a3 j (by omega)).trans (ndR_lo f t (by omega) 8)
    rcases hW k (by omega) with hw | ⟨c9, hc9, hw⟩
    · have e0 : waR w t k = w := if_pos ((a4 _ (by omega)).trans hw)
      rw [e0]
      refine ⟨fun c hc s hs => ?_, fun e he => ?_, a3⟩
      · rw [a1 c hc s hs, RDF_no (by rw [hw]; exact nI_no1 hc)]
      · rw [a2 e he]
        by_cases h : e = k
        · rw [if_neg (by omega), if_pos (by omega), h]; unfold ERR; rw [if_pos hw, Int32.add_zero]
        · by_cases h2 : e < k
          · rw [if_pos h2, if_pos (by omega)]
          · rw [if_neg h2, if_neg (by omega)]
    · have hw' : w (62 + k) = nI c9 := (a4 _ (by omega)).trans hw
      have e0 : waR w t k = waC w t k c9 := by
        unfold waR
        rw [if_neg (by rw [hw']; exact nI_ne1 (by omega)), hw', nI_clamp (by omega)]
      have e1 : rdgR w t k c9 = rdgR f t k c9 := rdgR_congr (by omega) hc9 ht (fun j hj => a4 j (by omega))
      have e2 : shR w c9 (w 74) = shR f c9 (nI t) := by rw [a4 74 (by omega), h74]; exact shR_congr hc9 (fun j hj => a4 j (by omega)) _
      have gA : waC w t k c9 (172 + 96 * c9 + t) = mxI (RDF f t c9 k) (rdgR f t k c9) := by
        unfold waC; rw [upd_ne _ _ (by omega), upd_ne _ _ (by omega), upd_at, e1, a1 c9 hc9 t ht, if_pos rfl]; rfl
      have gE : waC w t k c9 (65 + k) = w (65 + k) + absI (rdgR f t k c9 - shR f c9 (nI t)) := by
        unfold waC; rw [upd_ne _ _ (by omega), upd_at, upd_ne _ _ (by omega), e1, e2, absI_rd]
      have gO : ∀ j, j ≠ 172 + 96 * c9 + t → j ≠ 65 + k → j ≠ 68 + k → waC w t k c9 j = w j := fun j h1 h2 h3 => waC_hi w h1 h2 h3
      rw [e0]
      refine ⟨fun c hc s hs => ?_, fun e he => ?_, fun j hj => ?_⟩
      · by_cases h : c = c9 ∧ s = t
        · obtain ⟨rfl, rfl⟩ := h
          rw [gA, if_pos rfl]
          show _ = mxI (RDF f s c k) (if f (62 + k) = nI c then rdgR f s k c else -1)
          rw [if_pos hw]
        · rw [gO _ (by omega) (by omega) (by omega), a1 c hc s hs]
          by_cases hs2 : s = t
          · rw [if_pos hs2, if_pos hs2, RDF_no (by rw [hw]; exact fun z => h ⟨(nI_inj (by omega) (by omega) z).symm, hs2⟩)]
          · rw [if_neg hs2, if_neg hs2]
      · by_cases h : e = k
        · subst h
          rw [gE, a2 e he, if_neg (by omega), if_pos (by omega)]
          unfold ERR
          rw [if_neg (by rw [hw]; exact nI_ne1 (by omega)), hw, nI_clamp (by omega)]
        · rw [gO _ (by omega) (by omega) (by omega), a2 e he]
          by_cases h2 : e < k
          · rw [if_pos h2, if_pos (by omega)]
          · rw [if_neg h2, if_neg (by omega)]
      · rw [gO _ (by omega) (by omega) (by omega)]; exact a3 j hj
theorem ti_all (f : Nat → Int32) : ∀ k, k ≤ 3 → (∀ e, e < 3 → tiI f k (59 + e) = if e < k then (if f (62 + e) = -1 then 0 else f (59 + e) + 1) else f (59 + e)) := by
  intro k
  induction k with
  | zero => intro _ e he; rw [if_neg (by omega)]; rfl
  | succ k ih =>
    intro hk e he
    show upd (tiI f k) (59 + k) (if tiI f k (62 + k) = -1 then 0 else tiI f k (59 + k) + 1) (59 + e) = _
    by_cases h : e = k
    · subst h
      rw [upd_at, tiI_lo f (by omega) e (by omega), (ih (by omega) e he).trans (if_neg (by omega))]
      exact (if_pos (by omega)).symm
    · rw [upd_ne _ _ (by omega), ih (by omega) e he]
      by_cases h2 : e < k
      · rw [if_pos h2]; exact (if_pos (by omega)).symm
      · rw [if_neg h2]; exact (if_neg (by omega)).symm
/-- a row, its count and its longest, packed -/
def cntN (f : Nat → Int32) (y : Int32) : Nat → Nat
  | 0 => 0
  | n + 1 => cntN f y n + (if f n < y then 0 else 1)
theorem cntN_le (f : Nat → Int32) (y : Int32) : ∀ n, cntN f y n ≤ n := by
  intro n
  induction n with
  | zero => exact Nat.le_refl _
  | succ n ih => unfold cntN; split <;> omega
theorem cntN_congr {f g : Nat → Int32} (y : Int32) : ∀ n, (∀ j, j < n → g j = f j) → cntN g y n = cntN f y n := by
  intro n
  induction n with
  | zero => intro _; rfl
  | succ n ih => intro h; unfold cntN; rw [ih (fun j hj => h j (by omega)), h n (by omega)]
theorem LNq_congr {f g : Nat → Int32} (y : Int32) : ∀ n, (∀ j, j < n → g j = f j) → LN g y n = LN f y n := by
  intro n
  induction n with
  | zero => intro _; rfl
  | succ n ih => intro h; unfold LN; rw [ih (fun j hj => h j (by omega)), upR_congr y (n + 1) h]
def pkM (f : Nat → Int32) (y : Int32) (t : Nat) : Nat := upR f y t + 128 * cntN f y t + 16384 * LN f y t
theorem pkM_congr {f g : Nat → Int32} (y : Int32) (n : Nat) (h : ∀ j, j < n → g j = f j) : pkM g y n = pkM f y n := by
  unfold pkM; rw [upR_congr y n h, cntN_congr y n h, LNq_congr y n h]
theorem pk_split (f : Nat → Int32) (y : Int32) {t : Nat} (ht : t ≤ 96) : ∃ u c l, u ≤ 96 ∧ c ≤ 96 ∧ l ≤ 96 ∧ u = upR f y t ∧ c = cntN f y t ∧ l = LN f y t ∧ pkM f y t = u + 128 * c + 16384 * l :=
  ⟨_, _, _, Nat.le_trans (upR_le f y t) ht, Nat.le_trans (cntN_le f y t) ht, Nat.le_trans (LN_le f y t) ht, rfl, rfl, rfl, rfl⟩
theorem un_u {u c l : Nat} (hu : u ≤ 96) (hc : c ≤ 96) (hl : l ≤ 96) : nI (u + 128 * c + 16384 * l) &&& 127 = nI u := by
  rw [pk_andN (by omega) 7 (by decide)]; exact congrArg nI (by omega)
theorem un_k {u c l : Nat} (hu : u ≤ 96) (hc : c ≤ 96) (hl : l ≤ 96) : nI (u + 128 * c + 16384 * l) >>> ((7 : Int32) &&& 31) &&& 127 = nI c := by
  rw [pk_shrN (by omega) _ 7 (by decide), pk_andN (by omega) 7 (by decide)]; exact congrArg nI (by omega)
theorem un_l {u c l : Nat} (hu : u ≤ 96) (hc : c ≤ 96) (hl : l ≤ 96) : nI (u + 128 * c + 16384 * l) >>> ((14 : Int32) &&& 31) = nI l := by
  rw [pk_shrN (by omega) _ 14 (by decide)]; exact congrArg nI (by omega)
theorem pk_upd (f : Nat → Int32) (t : Nat) (v y : Int32) : pkM (upd f t v) y (t + 1) = (if v < y then 0 else upR f y t + 1) + 128 * (cntN f y t + (if v < y then 0 else 1)) + 16384 * max (LN f y t) (if v < y then 0 else upR f y t + 1) := by
  have h : ∀ j, j < t → upd f t v j = f j := fun j hj => upd_ne _ _ (by omega)
  unfold pkM
  have e1 : upR (upd f t v) y (t + 1) = if v < y then 0 else upR f y t + 1 := by
    show (if upd f t v t < y then 0 else upR (upd f t v) y t + 1) = _
    rw [upd_at, upR_congr y t h]
  have e2 : cntN (upd f t v) y (t + 1) = cntN f y t + (if v < y then 0 else 1) := by
    show cntN (upd f t v) y t + (if upd f t v t < y then 0 else 1) = _
    rw [upd_at, cntN_congr y t h]
  have e3 : LN (upd f t v) y (t + 1) = max (LN f y t) (upR (upd f t v) y (t + 1)) := by
    show max (LN (upd f t v) y t) (upR (upd f t v) y (t + 1)) = _
    rw [LNq_congr y t h]
  rw [e3, e1, e2]
theorem pq_lt {f : Nat → Int32} {t : Nat} {v y : Int32} (h : v < y) {x : Nat} (hx : x = 0 + 128 * (cntN f y t + 0) + 16384 * max (LN f y t) 0) : nI x = nI (pkM (upd f t v) y (t + 1)) := by
  rw [pk_upd, if_pos h, if_pos h, hx]
theorem pq_ge {f : Nat → Int32} {t : Nat} {v y : Int32} (h : ¬ v < y) {x : Nat} (hx : x = upR f y t + 1 + 128 * (cntN f y t + 1) + 16384 * max (LN f y t) (upR f y t + 1)) : nI x = nI (pkM (upd f t v) y (t + 1)) := by
  rw [pk_upd, if_neg h, if_neg h, hx]
/-- the law's arrays against the row -/
def LAW (c g q r m n f : Nat → Int32) (t k : Nat) : Prop := LC c f ∧ LG g f ∧ (∀ s, s < t → t ≤ s + 8 → g (24 + s % 8) = f (1708 + s)) ∧ LQ q f ∧ (∀ e, e < 3 → q (9 + e) = f (65 + e)) ∧ (q 15 = f 71 ∧ q 16 = f 72 ∧ q 17 = f 73 ∧ q 18 = f 74 ∧ q 19 = f 75) ∧ (∀ d, d < 8 → ∀ s, s < t → t ≤ s + 8 → r (8 * d + s % 8) = f (940 + 96 * d + s)) ∧ (∀ d, d < 8 → ∀ y, y < 6 → m (6 * d + y) = nI (pkM (rgR f d) (nI y) t)) ∧ LNn n f k
/-- the arrays behind the first steps of a tick -/
def rKb (r f : Nat → Int32) (t k : Nat) : Nat → Int32 := fun x => if x % 8 = t % 8 ∧ x / 8 < k then shR f (x / 8) (nI t) else r x
def mKb (m f : Nat → Int32) (t b : Nat) : Nat → Int32 := fun x => if x < b then nI (pkM (upd (rgR f (x / 6)) t (RDF f t (x / 6) 3)) (nI (x % 6)) (t + 1)) else m x
def qE (q f : Nat → Int32) (t e : Nat) : Nat → Int32 := fun x => if 9 ≤ x ∧ x < 9 + e then q x + ERR f t (x - 9) else if 12 ≤ x ∧ x < 12 + e then q x + (if f (62 + (x - 12)) = -1 then 0 else 1) else q x
def qT (z f : Nat → Int32) (e : Nat) : Nat → Int32 := fun x => if 3 ≤ x ∧ x < 3 + e then (if f (62 + (x - 3)) = -1 then 0 else z x + 1) else z x
theorem rKb_0 (r f : Nat → Int32) (t : Nat) : rKb r f t 0 = r := by funext x; exact if_neg (by omega)
theorem rKb_s (r f : Nat → Int32) (t k : Nat) : upd (rKb r f t k) (8 * k + t % 8) (shR f k (nI t)) = rKb r f t (k + 1) := by
  funext x
  by_cases h : x = 8 * k + t % 8
  · subst h
    rw [upd_at]; unfold rKb
    rw [if_pos ⟨by omega, by omega⟩, show (8 * k + t % 8) / 8 = k by omega]
  · rw [upd_ne _ _ h]; unfold rKb
    by_cases h2 : x % 8 = t % 8 ∧ x / 8 < k
    · rw [if_pos h2]; exact (if_pos ⟨h2.1, by omega⟩).symm
    · rw [if_neg h2, if_neg (fun z => h2 ⟨z.1, by omega⟩)]
theorem mKb_0 (m f : Nat → Int32) (t : Nat) : mKb m f t 0 = m := by funext x; exact if_neg (by omega)
theorem mKb_at (m f : Nat → Int32) (t b : Nat) : mKb m f t b b = m b := if_neg (by omega)
theorem mKb_s {m f : Nat → Int32} {t k y : Nat} (hy : y < 6) {v : Int32} (hv : v = nI (pkM (upd (rgR f k) t (RDF f t k 3)) (nI y) (t + 1))) : upd (mKb m f t (6 * k + y)) (6 * k + y) v = mKb m f t (6 * k + (y + 1)) := by
  funext x
  by_cases h : x = 6 * k + y
  · subst h
    rw [upd_at]; unfold mKb
    rw [if_pos (by omega), show (6 * k + y) / 6 = k by omega, show (6 * k + y) % 6 = y by omega, hv]
  · rw [upd_ne _ _ h]; unfold mKb
    by_cases h2 : x < 6 * k + y
    · rw [if_pos h2, if_pos (by omega)]
    · rw [if_neg h2, if_neg (by omega)]
theorem qE_0 (q f : Nat → Int32) (t : Nat) : qE q f t 0 = q := by funext x; unfold qE; rw [if_neg (by omega), if_neg (by omega)]
theorem qE_o {q f : Nat → Int32} {t e x : Nat} (h : x < 9 ∨ 15 ≤ x) (he : e ≤ 3) : qE q f t e x = q x := by unfold qE; rw [if_neg (by omega), if_neg (by omega)]
theorem qE_s {q f : Nat → Int32} {t e : Nat} {v w : Int32} (he : e < 3) (hv : v = ERR f t e) (hw : w = if f (62 + e) = -1 then 0 else 1) : upd (upd (qE q f t e) (9 + e) (qE q f t e (9 + e) + v)) (12 + e) (qE q f t e (12 + e) + w) = qE q f t (e + 1) := by
  have e1 : qE q f t e (9 + e) = q (9 + e) := by unfold qE; rw [if_neg (by omega), if_neg (by omega)]
  have e2 : qE q f t e (12 + e) = q (12 + e) := by unfold qE; rw [if_neg (by omega), if_neg (by omega)]
  rw [e1, e2, hv, hw]
  funext x
  by_cases h1 : x = 12 + e
  · subst h1
    rw [upd_at]; unfold qE
    rw [if_neg (show ¬ (9 ≤ 12 + e ∧ 12 + e < 9 + (e + 1)) by omega), if_pos (show 12 ≤ 12 + e ∧ 12 + e < 12 + (e + 1) by omega), show 12 + e - 12 = e by omega]
  · rw [upd_ne _ _ h1]
    by_cases h2 : x = 9 + e
    · subst h2
      rw [upd_at]; unfold qE
      rw [if_pos (by omega), show 9 + e - 9 = e by omega]
    · rw [upd_ne _ _ h2]; unfold qE
      by_cases h3 : 9 ≤ x ∧ x < 9 + e
      · rw [if_pos h3]; exact (if_pos (by omega)).symm
      · rw [if_neg h3, if_neg (show ¬ (9 ≤ x ∧ x < 9 + (e + 1)) by omega)]
        by_cases h4 : 12 ≤ x ∧ x < 12 + e
        · rw [if_pos h4]; exact (if_pos (by omega)).symm
        · rw [if_neg h4]; exact (if_neg (by omega)).symm
theorem qT_0 (z f : Nat → Int32) : qT z f 0 = z := by funext x; exact if_neg (by omega)
theorem qT_o {z f : Nat → Int32} {e x : Nat} (h : x < 3 ∨ 6 ≤ x) (he : e ≤ 3) : qT z f e x = z x := if_neg (by omega)
theorem qT_s {z f : Nat → Int32} {e : Nat} {v : Int32} (hv : v = if f (62 + e) = -1 then 0 else z (3 + e) + 1) : upd (qT z f e) (3 + e) v = qT z f (e + 1) := by
  funext x
  by_cases h : x = 3 + e
  · subst h
    rw [upd_at]; unfold qT
    rw [if_pos (by omega), show 3 + e - 3 = e by omega, hv]
  · rw [upd_ne _ _ h]; unfold qT
    by_cases h3 : 3 ≤ x ∧ x < 3 + e
    · rw [if_pos h3]; exact (if_pos (by omega)).symm
    · rw [if_neg h3]; exact (if_neg (by omega)).symm
theorem qT_at {z f : Nat → Int32} {e : Nat} : qT z f e (3 + e) = z (3 + e) := if_neg (by omega)
/-- the row behind the first three steps -/
def f3R (f : Nat → Int32) (t : Nat) : Nat → Int32 := tiI (waI (ndR f t 8) t 3) 3
section F3
variable {f : Nat → Int32} {t : Nat}
theorem f3_lo {j : Nat} (h : j < 59 ∨ 62 ≤ j ∧ j < 65 ∨ 71 ≤ j ∧ j < 172) : f3R f t j = f j := (tiI_lo _ (by omega) 3 (by omega)).trans ((waI_lo _ (by omega) 3 (by omega)).trans (ndR_lo f t (by omega) 8))
theorem f3_ti {e : Nat} (he : e < 3) : f3R f t (59 + e) = if f (62 + e) = -1 then 0 else f (59 + e) + 1 := by
  unfold f3R
  rw [ti_all _ 3 (by omega) e he, if_pos he, waI_lo _ (by omega) 3 (by omega), waI_lo _ (by omega) 3 (by omega), ndR_lo f t (by omega) 8, ndR_lo f t (by omega) 8]
theorem f3_er (h74 : f 74 = nI t) (ht : t < 96) (hW : ∀ e, e < 3 → f (62 + e) = -1 ∨ ∃ c, c < 8 ∧ f (62 + e) = nI c) (h0 : ∀ c, c < 8 → f (172 + 96 * c + t) = -1) {e : Nat} (he : e < 3) : f3R f t (65 + e) = f (65 + e) + ERR f t e := (tiI_lo _ (by omega) 3 (by omega)).trans (((wa_all h74 ht hW h0 3 (by omega)).2.1 e he).trans (if_pos he))
theorem f3_rd (h74 : f 74 = nI t) (ht : t < 96) (hW : ∀ e, e < 3 → f (62 + e) = -1 ∨ ∃ c, c < 8 ∧ f (62 + e) = nI c) (h0 : ∀ c, c < 8 → f (172 + 96 * c + t) = -1) {c s : Nat} (hc : c < 8) (hs : s < 96) : f3R f t (172 + 96 * c + s) = if s = t then RDF f t c 3 else f (172 + 96 * c + s) := (tiI_lo _ (by omega) 3 (by omega)).trans ((wa_all h74 ht hW h0 3 (by omega)).1 c hc s hs)
theorem f3_sh (h74 : f 74 = nI t) (ht : t < 96) (hW : ∀ e, e < 3 → f (62 + e) = -1 ∨ ∃ c, c < 8 ∧ f (62 + e) = nI c) (h0 : ∀ c, c < 8 → f (172 + 96 * c + t) = -1) {c s : Nat} (hc : c < 8) (hs : s < 96) : f3R f t (940 + 96 * c + s) = if s = t then shR f c (nI t) else f (940 + 96 * c + s) := by
  refine (tiI_lo _ (by omega) 3 (by omega)).trans (((wa_all h74 ht hW h0 3 (by omega)).2.2 _ (by omega)).trans ?_)
  rw [ndR_in f hc ht hs 8 (by omega)]
  by_cases h : s = t
  · rw [if_pos ⟨h, hc⟩, if_pos h]
  · rw [if_neg (fun z => h z.1), if_neg h]
theorem f3_sk (h74 : f 74 = nI t) (ht : t < 96) (hW : ∀ e, e < 3 → f (62 + e) = -1 ∨ ∃ c, c < 8 ∧ f (62 + e) = nI c) (h0 : ∀ c, c < 8 → f (172 + 96 * c + t) = -1) {s : Nat} (hs : s < 96) : f3R f t (1708 + s) = if s = t then f (32 + t / 4) else f (1708 + s) := by
  refine (tiI_lo _ (by omega) 3 (by omega)).trans (((wa_all h74 ht hW h0 3 (by omega)).2.2 _ (by omega)).trans ?_)
  exact ndR_sk f ht 8 (by omega)
/-- the arrays against the row, behind the first three steps -/
theorem LAW_3 (h74 : f 74 = nI t) (ht : t < 96) (hW : ∀ e, e < 3 → f (62 + e) = -1 ∨ ∃ c, c < 8 ∧ f (62 + e) = nI c) (h0 : ∀ c, c < 8 → f (172 + 96 * c + t) = -1) {c g q r m n : Nat → Int32} {k : Nat} (L : LAW c g q r m n f t k) (hk : k ≤ 20) : LAW c (upd g (24 + t % 8) (g (t / 4))) (qT (qE q f t 3) f 3) (rKb r f t 8) (mKb m f t 48) n (f3R f t) (t + 1) k := by
  obtain ⟨l1, l2, l3, l4, l5, ⟨l6a, l6b, l6c, l6d, l6e⟩, l7, l8, l9⟩ := L
  refine ⟨fun j hj => (l1 j hj).trans (f3_lo (by omega)).symm, fun h hh => ?_, fun s h1 h2 => ?_, fun e he => ?_, fun e he => ?_, ?_, fun d hd s h1 h2 => ?_, fun d hd y hy => ?_, fun e he => ?_⟩
  · rw [upd_ne _ _ (by omega)]; exact (l2 h hh).trans (f3_lo (by omega)).symm
  · rw [f3_sk h74 ht hW h0 (show s < 96 by omega)]
    by_cases h : s = t
    · rw [if_pos h, h, upd_at]; exact l2 _ (by omega)
    · rw [if_neg h, upd_ne _ _ (by omega)]; exact l3 s (by omega) (by omega)
  · obtain ⟨b1, b2, b3⟩ := l4 e he
    refine ⟨?_, ?_, ?_⟩
    · rw [qT_o (by omega) (by omega), qE_o (by omega) (by omega)]; exact b1.trans (f3_lo (by omega)).symm
    · rw [f3_ti he]; unfold qT
      rw [if_pos (by omega), show 3 + e - 3 = e by omega, qE_o (by omega) (by omega), b2]
    · rw [qT_o (by omega) (by omega), qE_o (by omega) (by omega)]; exact b3.trans (f3_lo (by omega)).symm
  · rw [qT_o (by omega) (by omega), f3_er h74 ht hW h0 he]; unfold qE
    rw [if_pos (by omega), show 9 + e - 9 = e by omega, l5 e he]
  · refine ⟨?_, ?_, ?_, ?_, ?_⟩ <;> rw [qT_o (by omega) (by omega), qE_o (by omega) (by omega), f3_lo (by omega)] <;> assumption
  · rw [f3_sh h74 ht hW h0 hd (show s < 96 by omega)]; unfold rKb
    by_cases h : s = t
    · rw [if_pos ⟨by omega, by omega⟩, if_pos h, show (8 * d + s % 8) / 8 = d by omega]
    · rw [if_neg (by omega), if_neg h]; exact l7 d hd s (by omega) (by omega)
  · unfold mKb
    rw [if_pos (by omega), show (6 * d + y) / 6 = d by omega, show (6 * d + y) % 6 = y by omega]
    refine congrArg nI (pkM_congr _ _ (fun j hj => ?_)).symm
    show f3R f t (172 + 96 * d + j) = _
    rw [f3_rd h74 ht hW h0 hd (show j < 96 by omega)]
    by_cases h : j = t
    · rw [if_pos h, h, upd_at]
    · rw [if_neg h, upd_ne _ _ h]
  · obtain ⟨c9, s9, d9, w9, b1, b2, b3, b4, b5, b6, b7, b8, b9⟩ := l9 e he
    exact ⟨c9, s9, d9, w9, b1, b2, b3, b4, b5, (f3_lo (by omega)).trans b6, (f3_lo (by omega)).trans b7, (f3_lo (by omega)).trans b8, (f3_lo (by omega)).trans b9⟩
end F3
/-- a change that leaves the row but the notices and their number -/
theorem LAW_row {c g q r m n f h : Nat → Int32} {t k k2 : Nat} {q2 n2 : Nat → Int32} (ht : t ≤ 96) (L : LAW c g q r m n f t k) (hf : ∀ j, j < 75 ∨ 172 ≤ j → h j = f j) (hq : ∀ j, j < 19 → q2 j = q j) (h19 : q2 19 = h 75) (hN : LNn n2 h k2) : LAW c g q2 r m n2 h t k2 := by
  obtain ⟨l1, l2, l3, l4, l5, ⟨l6a, l6b, l6c, l6d, l6e⟩, l7, l8, l9⟩ := L
  refine ⟨fun j hj => (l1 j hj).trans (hf j (by omega)).symm, fun j hj => (l2 j hj).trans (hf _ (by omega)).symm, fun s h1 h2 => (l3 s h1 h2).trans (hf _ (by omega)).symm, fun e he => ?_, fun e he => ?_, ?_, fun d hd s h1 h2 => (l7 d hd s h1 h2).trans (hf _ (by omega)).symm, fun d hd y hy => ?_, hN⟩
  · obtain ⟨b1, b2, b3⟩ := l4 e he
    rw [hq _ (by omega), hq _ (by omega), hq _ (by omega), hf _ (by omega), hf _ (by omega), hf _ (by omega)]; exact ⟨b1, b2, b3⟩
  · rw [hq _ (by omega), hf _ (by omega)]; exact l5 e he
  · rw [hq 15 (by omega), hq 16 (by omega), hq 17 (by omega), hq 18 (by omega), hf 71 (by omega), hf 72 (by omega), hf 73 (by omega), hf 74 (by omega)]; exact ⟨l6a, l6b, l6c, l6d, h19⟩
  · rw [l8 d hd y hy]; exact congrArg nI (pkM_congr _ _ (fun j hj => hf _ (by omega))).symm
/-- a notice comes -/
theorem LAW_gt {c g q r m n h : Nat → Int32} {t p k d : Nat} (ht : t < 96) (hd : d < 8) (hk : k < 20) (hv : RV h t p k) (L : LAW c g q r m n h (t + 1) k) {v : Int32} (hw : v = nI d + 8 * (1 + STL h d k) + 1024 * whR h d (t + 1 - p) p) : LAW c g (upd q 19 (q 19 + 1)) r m (upd n k v) (gtR h t p k d) (t + 1) (k + 1) := by
  have h75 : h 75 = nI k := hv.2.2.2.2.2.2.1
  have hO : ∀ j, j < 75 ∨ 172 ≤ j → gtR h t p k d j = h j := fun j hj => gt_o (by omega) (by omega) (by omega) (by omega) (by omega) (by omega)
  refine LAW_row (by omega) L hO (fun j hj => upd_ne _ _ (by omega)) ?_ (fun e he => ?_)
  · rw [upd_at, gt_75 hk hd, L.2.2.2.2.2.1.2.2.2.2]
  · by_cases hek : e = k
    · subst hek
      obtain ⟨b, hb1, hb2, eb⟩ := gtS_n h d e
      have e8 : whR (gt3 h e d) d (t + 1 - p) p = whR h d (t + 1 - p) p := whR_congr (fun j hj => by unfold gt3; rw [upd_ne _ _ (by omega), upd_ne _ _ (by omega), upd_ne _ _ (by omega)]) _
      have e9 : ∃ w, w ≤ 2 ∧ whR h d (t + 1 - p) p = nI w := by
        rcases whR_spec h d (t + 1 - p) p with ⟨e1, -⟩ | ⟨e1, -⟩ | ⟨e1, -⟩
        · exact ⟨0, by omega, e1⟩
        · exact ⟨1, by omega, e1⟩
        · exact ⟨2, by omega, e1⟩
      obtain ⟨w, hw2, ew⟩ := e9
      refine ⟨d, b, 0, w, hd, by omega, by omega, hw2, ?_, gt_92 hk hd, ?_, gt_132 hk hd, ?_⟩
      · rw [upd_at, hw, ← gtS_ST, eb, ew, show (8 : Int32) = nI 8 from rfl, show (1024 : Int32) = nI 1024 from rfl, pk_mul, pk_mul, nI_add, nI_add]
        exact congrArg nI (by omega)
      · rw [gt_112 hk hd, eb, show (10 : Int32) = nI 10 from rfl, pk_mul]
      · rw [gt_152 hk hd, ew]
    · obtain ⟨c9, s9, d9, w9, b1, b2, b3, b4, b5, b6, b7, b8, b9⟩ := L.2.2.2.2.2.2.2.2 e (by omega)
      have gO : ∀ j, j ≠ 75 → j ≠ 76 + d → j ≠ 92 + k → j ≠ 112 + k → j ≠ 132 + k → j ≠ 152 + k → gtR h t p k d j = h j := fun j g1 g2 g3 g4 g5 g6 => gt_o g1 g2 g3 g4 g5 g6
      refine ⟨c9, s9, d9, w9, b1, b2, b3, b4, ?_, ?_, ?_, ?_, ?_⟩
      · rw [upd_ne _ _ hek]; exact b5
      · rw [gO _ (by omega) (by omega) (by omega) (by omega) (by omega) (by omega)]; exact b6
      · rw [gO _ (by omega) (by omega) (by omega) (by omega) (by omega) (by omega)]; exact b7
      · rw [gO _ (by omega) (by omega) (by omega) (by omega) (by omega) (by omega)]; exact b8
      · rw [gO _ (by omega) (by omega) (by omega) (by omega) (by omega) (by omega)]; exact b9
/-- the next tick, within the day -/
theorem LAW_go {c g q r m n f : Nat → Int32} {t k : Nat} (ht : t + 1 < 96) (h74 : f 74 = nI t) (L : LAW c g q r m n f (t + 1) k) : goR f 74 = nI (t + 1) ∧ LAW c g (upd q 18 (q 18 + 1)) r m n (goR f) (t + 1) k := by
  have e1 : f 74 + 1 = nI (t + 1) := by rw [h74]; exact nI_1 t
  have e0 : goR f = upd f 74 (nI (t + 1)) := by
    unfold goR
    rw [e1, upd_at, if_neg (fun z => by have := nI_inj (a := t + 1) (b := 96) (by omega) (by omega) z; omega)]
  rw [e0]
  refine ⟨upd_at _ _ _, ?_⟩
  obtain ⟨l1, l2, l3, l4, l5, ⟨l6a, l6b, l6c, l6d, l6e⟩, l7, l8, l9⟩ := L
  have hO : ∀ j, j ≠ 74 → upd f 74 (nI (t + 1)) j = f j := fun j hj => upd_ne _ _ hj
  have hq : ∀ j, j ≠ 18 → upd q 18 (q 18 + 1) j = q j := fun j hj => upd_ne _ _ hj
  refine ⟨fun j hj => (l1 j hj).trans (hO j (by omega)).symm, fun j hj => (l2 j hj).trans (hO _ (by omega)).symm, fun s h1 h2 => (l3 s h1 h2).trans (hO _ (by omega)).symm, fun e he => ?_, fun e he => ?_, ?_, fun d hd s h1 h2 => (l7 d hd s h1 h2).trans (hO _ (by omega)).symm, fun d hd y hy => ?_, fun e he => ?_⟩
  · obtain ⟨b1, b2, b3⟩ := l4 e he
    rw [hq _ (by omega), hq _ (by omega), hq _ (by omega), hO _ (by omega), hO _ (by omega), hO _ (by omega)]; exact ⟨b1, b2, b3⟩
  · rw [hq _ (by omega), hO _ (by omega)]; exact l5 e he
  · rw [hq 15 (by omega), hq 16 (by omega), hq 17 (by omega), hq 19 (by omega), hO 71 (by omega), hO 72 (by omega), hO 73 (by omega), hO 75 (by omega), upd_at, upd_at, l6d]; exact ⟨l6a, l6b, l6c, e1, l6e⟩
  · rw [l8 d hd y hy]; exact congrArg nI (pkM_congr _ _ (fun j hj => hO _ (by omega))).symm
  · obtain ⟨c9, s9, d9, w9, b1, b2, b3, b4, b5, b6, b7, b8, b9⟩ := l9 e he
    by_cases hbig : e < 20
    · exact ⟨c9, s9, d9, w9, b1, b2, b3, b4, b5, (hO _ (by omega)).trans b6, (hO _ (by omega)).trans b7, (hO _ (by omega)).trans b8, (hO _ (by omega)).trans b9⟩
    · exact ⟨c9, s9, d9, w9, b1, b2, b3, b4, b5, (hO _ (by omega)).trans b6, (hO _ (by omega)).trans b7, (hO _ (by omega)).trans b8, (hO _ (by omega)).trans b9⟩
/-- .. behind the day's last -/
def zK (m : Nat → Int32) (b : Nat) : Nat → Int32 := fun x => if x < b then 0 else m x
theorem zK_0 (m : Nat → Int32) : zK m 0 = m := by funext x; exact if_neg (by omega)
theorem zK_s (m : Nat → Int32) (b : Nat) : upd (zK m b) b 0 = zK m (b + 1) := by
  funext x
  by_cases h : x = b
  · subst h; rw [upd_at]; exact (if_pos (by omega)).symm
  · rw [upd_ne _ _ h]; unfold zK
    by_cases h2 : x < b
    · rw [if_pos h2, if_pos (by omega)]
    · rw [if_neg h2, if_neg (by omega)]
theorem LAW_day {c g q r m n f : Nat → Int32} {t k : Nat} (hk : k ≤ 20) (ht : t + 1 = 96) (h74 : f 74 = nI t) (L : LAW c g q r m n f (t + 1) k) : goR f 74 = nI 0 ∧ LAW c g (upd (upd (upd q 18 (q 18 + 1)) 18 0) 17 (upd (upd q 18 (q 18 + 1)) 18 0 17 + 1)) r (zK m 48) n (goR f) 0 k := by
  have e1 : f 74 + 1 = nI 96 := by rw [h74, ← ht]; exact nI_1 t
  have e0 : goR f = fgR (upd (upd f 74 0) 73 (f 73 + 1)) 768 := by
    unfold goR
    rw [e1, upd_at, if_pos (show nI 96 = 96 from rfl)]
    have e2 : upd (upd f 74 (nI 96)) 74 0 = upd f 74 0 := by
      funext x
      by_cases h : x = 74
      · rw [h, upd_at, upd_at]
      · rw [upd_ne _ _ h, upd_ne _ _ h, upd_ne _ _ h]
    rw [e2, upd_ne _ _ (show (73 : Nat) ≠ 74 by omega)]
  have hO : ∀ j, j ≠ 74 → j ≠ 73 → j < 172 ∨ 940 ≤ j → goR f j = f j := fun j h1 h2 h3 => by
    rw [e0]; unfold fgR
    rw [if_neg (by omega), upd_ne _ _ h2, upd_ne _ _ h1]
  have e74 : goR f 74 = 0 := by
    rw [e0]; unfold fgR
    rw [if_neg (by omega), upd_ne _ _ (by omega), upd_at]
  have e73 : goR f 73 = f 73 + 1 := by
    rw [e0]; unfold fgR
    rw [if_neg (by omega), upd_at]
  refine ⟨e74, ?_⟩
  obtain ⟨l1, l2, l3, l4, l5, ⟨l6a, l6b, l6c, l6d, l6e⟩, l7, l8, l9⟩ := L
  have hq : ∀ j, j ≠ 18 → j ≠ 17 → upd (upd (upd q 18 (q 18 + 1)) 18 0) 17 (upd (upd q 18 (q 18 + 1)) 18 0 17 + 1) j = q j := fun j h1 h2 => by rw [upd_ne _ _ h2, upd_ne _ _ h1, upd_ne _ _ h1]
  refine ⟨fun j hj => (l1 j hj).trans (hO j (by omega) (by omega) (by omega)).symm, fun j hj => (l2 j hj).trans (hO _ (by omega) (by omega) (by omega)).symm, fun s h1 h2 => absurd h1 (by omega), fun e he => ?_, fun e he => ?_, ?_, fun d hd s h1 h2 => absurd h1 (by omega), fun d hd y hy => ?_, fun e he => ?_⟩
  · obtain ⟨b1, b2, b3⟩ := l4 e he
    rw [hq _ (by omega) (by omega), hq _ (by omega) (by omega), hq _ (by omega) (by omega), hO _ (by omega) (by omega) (by omega), hO _ (by omega) (by omega) (by omega), hO _ (by omega) (by omega) (by omega)]; exact ⟨b1, b2, b3⟩
  · rw [hq _ (by omega) (by omega), hO _ (by omega) (by omega) (by omega)]; exact l5 e he
  · rw [hq 15 (by omega) (by omega), hq 16 (by omega) (by omega), hq 19 (by omega) (by omega), hO 71 (by omega) (by omega) (by omega), hO 72 (by omega) (by omega) (by omega), hO 75 (by omega) (by omega) (by omega), e74, e73, upd_at, upd_ne _ _ (show (18 : Nat) ≠ 17 by omega), upd_at, upd_ne _ _ (show (17 : Nat) ≠ 18 by omega), upd_ne _ _ (show (17 : Nat) ≠ 18 by omega), l6c]; exact ⟨l6a, l6b, rfl, rfl, l6e⟩
  · exact if_pos (by omega)
  · obtain ⟨c9, s9, d9, w9, b1, b2, b3, b4, b5, b6, b7, b8, b9⟩ := l9 e he
    exact ⟨c9, s9, d9, w9, b1, b2, b3, b4, b5, (hO _ (by omega) (by omega) (by omega)).trans b6, (hO _ (by omega) (by omega) (by omega)).trans b7, (hO _ (by omega) (by omega) (by omega)).trans b8, (hO _ (by omega) (by omega) (by omega)).trans b9⟩
