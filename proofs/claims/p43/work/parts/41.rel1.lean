def rlC (M : Mm) (r : Nat) (f : Nat → Int32) : Prop := ∀ c, c < 8 → M (chP r c) 0 = f (0 + c) ∧ M (chP r c) 1 = f (8 + c) ∧ M (chP r c) 2 = f (16 + c) ∧ M (chP r c) 3 = f (24 + c) ∧ M (chP r c) 4 = f (76 + c) ∧ M (chP r c) 5 = f (84 + c)
def rlR (M : Mm) (r : Nat) (f : Nat → Int32) : Prop := ∀ c, c < 8 → ∀ t, t < 96 → M (chP r c + 1 + 1) t = f (172 + 96 * c + t)
def rlS (M : Mm) (r : Nat) (f : Nat → Int32) (T : Nat) : Prop := ∀ c, c < 8 → ∀ t, t < T → ¬ f (172 + 96 * c + t) = -1 → M (chP r c + 3 + 1) t = f (940 + 96 * c + t)
def rlO (M : Mm) (r : Nat) (f : Nat → Int32) : Prop := ∀ k, k < 3 → M (obP r k) 0 = f (62 + k) ∧ M (obP r k) 1 = f (56 + k) ∧ M (obP r k) 2 = f (59 + k) ∧ M (obP r k) 3 = f (65 + k) ∧ M (obP r k) 4 = f (68 + k)
def rlG (M : Mm) (r : Nat) (f : Nat → Int32) : Prop := ∀ h, h < 24 → M (r + 4) h = f (32 + h)
def rlK (M : Mm) (r : Nat) (f : Nat → Int32) (T : Nat) : Prop := ∀ t, t < T → M (r + 5 + 1) t = f (1708 + t)
def rlH (M : Mm) (r : Nat) (f : Nat → Int32) : Prop := M r 5 = f 75 ∧ M r 6 = f 71 ∧ M r 7 = f 72 ∧ M r 8 = f 73 ∧ M r 9 = f 74
/-- an appeal made, upheld -/
def mdI (a s m : Int32) : Prop := a = 0 ∧ s = 1 ∧ m = 0 ∨ a = 1 ∧ s = 1 ∧ m = 1 ∨ a = 1 ∧ s = 0 ∧ m = 2
/-- what an appeal would come to -/
def whI (g l : Int32) : Int32 := if g = 0 then (if l = 0 then 2 else 1) else 0
def rlN (M : Mm) (r : Nat) (f : Nat → Int32) (n : Nat) : Prop := ∀ e, e < n → M (noP r e) 0 = f (92 + e) ∧ M (noP r e) 1 = f (112 + e) ∧ mdI (M (noP r e) 4) (M (noP r e) 5) (f (132 + e)) ∧ f (152 + e) = whI (M (noP r e) 2) (M (noP r e) 3)
def Rl (M : Mm) (r : Nat) (f : Nat → Int32) (T n : Nat) : Prop := rlC M r f ∧ rlR M r f ∧ rlS M r f T ∧ rlO M r f ∧ rlG M r f ∧ rlK M r f T ∧ rlH M r f ∧ rlN M r f n
/-- what every row keeps, besides RV -/
def RZ (f : Nat → Int32) (T n : Nat) : Prop := (∃ L, 1 ≤ L ∧ L ≤ 5 ∧ f 71 = nI L) ∧ (∀ c, c < 8 → ∃ a g, 2 ≤ a ∧ a ≤ 12 ∧ g ≤ 11 ∧ f (16 + c) = nI a ∧ f (24 + c) = nI g) ∧ (∀ c, c < 8 → ∀ j, T ≤ j → j < 96 → f (172 + 96 * c + j) = -1) ∧ (∀ e, e < n → ∃ c, c < 8 ∧ f (92 + e) = nI c) ∧ (∀ c, c < 8 → ∃ a, a ≤ 210 * n ∧ f (76 + c) = nI a)
theorem rlC_of {M N : Mm} {r : Nat} {f g : Nat → Int32} (hM : ∀ c, c < 8 → N (chP r c) = M (chP r c)) (hf : ∀ j, j < 32 ∨ 76 ≤ j ∧ j < 92 → g j = f j) (h : rlC M r f) : rlC N r g := by
  intro c hc
  rw [hM c hc, hf (0 + c) (by omega), hf (8 + c) (by omega), hf (16 + c) (by omega), hf (24 + c) (by omega), hf (76 + c) (by omega), hf (84 + c) (by omega)]
  exact h c hc
theorem rlR_of {M N : Mm} {r : Nat} {f g : Nat → Int32} (hM : ∀ c, c < 8 → N (chP r c + 1 + 1) = M (chP r c + 1 + 1)) (hf : ∀ j, 172 ≤ j ∧ j < 940 → g j = f j) (h : rlR M r f) : rlR N r g := by
  intro c hc t ht
  rw [hM c hc, hf _ (by omega)]
  exact h c hc t ht
theorem rlS_of {M N : Mm} {r T : Nat} {f g : Nat → Int32} (hT : T ≤ 96) (hM : ∀ c, c < 8 → N (chP r c + 3 + 1) = M (chP r c + 3 + 1)) (hf : ∀ j, 172 ≤ j ∧ j < 1708 → g j = f j) (h : rlS M r f T) : rlS N r g T := by
  intro c hc t ht
  rw [hM c hc, hf (172 + 96 * c + t) (by omega), hf (940 + 96 * c + t) (by omega)]
  exact h c hc t ht
theorem rlO_of {M N : Mm} {r : Nat} {f g : Nat → Int32} (hM : ∀ k, k < 3 → N (obP r k) = M (obP r k)) (hf : ∀ j, 56 ≤ j ∧ j < 71 → g j = f j) (h : rlO M r f) : rlO N r g := by
  intro k hk
  rw [hM k hk, hf (62 + k) (by omega), hf (56 + k) (by omega), hf (59 + k) (by omega), hf (65 + k) (by omega), hf (68 + k) (by omega)]
  exact h k hk
theorem rlG_of {M N : Mm} {r : Nat} {f g : Nat → Int32} (hM : N (r + 4) = M (r + 4)) (hf : ∀ j, 32 ≤ j ∧ j < 56 → g j = f j) (h : rlG M r f) : rlG N r g := by
  intro k hk
  rw [hM, hf _ (by omega)]
  exact h k hk
theorem rlK_of {M N : Mm} {r T : Nat} {f g : Nat → Int32} (hT : T ≤ 96) (hM : N (r + 5 + 1) = M (r + 5 + 1)) (hf : ∀ j, 1708 ≤ j ∧ j < 1804 → g j = f j) (h : rlK M r f T) : rlK N r g T := by
  intro k hk
  rw [hM, hf _ (by omega)]
  exact h k hk
theorem rlH_of {M N : Mm} {r : Nat} {f g : Nat → Int32} (hM : N r = M r) (hf : ∀ j, 71 ≤ j ∧ j < 76 → g j = f j) (h : rlH M r f) : rlH N r g := by
  unfold rlH
  rw [hM, hf 71 (by omega), hf 72 (by omega), hf 73 (by omega), hf 74 (by omega), hf 75 (by omega)]
  exact h
theorem rlN_of {M N : Mm} {r n : Nat} {f g : Nat → Int32} (hn : n ≤ 20) (hM : ∀ e, e < n → N (noP r e) = M (noP r e)) (hf : ∀ j, 92 ≤ j ∧ j < 172 → g j = f j) (h : rlN M r f n) : rlN N r g n := by
  intro e he
  rw [hM e he, hf (92 + e) (by omega), hf (112 + e) (by omega), hf (132 + e) (by omega), hf (152 + e) (by omega)]
  exact h e he
theorem Rl_of {M N : Mm} {r q T n : Nat} {f g : Nat → Int32} (hT : T ≤ 96) (hn : n ≤ 20) (hM : ∀ x, x < 70 → N (q + x) = M (r + x)) (hf : ∀ j, j < 1804 → g j = f j) (h : Rl M r f T n) : Rl N q g T n := by
  obtain ⟨hC, hR, hS, hO, hG, hK, hH, hN⟩ := h
  refine ⟨?_, ?_, ?_, ?_, ?_, ?_, ?_, ?_⟩
  · intro c hc
    rw [show N (chP q c) = M (chP r c) by rw [show chP q c = q + (7 + 5 * c) by unfold chP; omega, hM _ (by omega)]; congr 1; unfold chP; omega, hf (0 + c) (by omega), hf (8 + c) (by omega), hf (16 + c) (by omega), hf (24 + c) (by omega), hf (76 + c) (by omega), hf (84 + c) (by omega)]
    exact hC c hc
  · intro c hc t ht
    rw [show N (chP q c + 1 + 1) = M (chP r c + 1 + 1) by rw [show chP q c + 1 + 1 = q + (9 + 5 * c) by unfold chP; omega, hM _ (by omega)]; congr 1; unfold chP; omega, hf _ (by omega)]
    exact hR c hc t ht
  · intro c hc t ht
    rw [show N (chP q c + 3 + 1) = M (chP r c + 3 + 1) by rw [show chP q c + 3 + 1 = q + (11 + 5 * c) by unfold chP; omega, hM _ (by omega)]; congr 1; unfold chP; omega, hf (172 + 96 * c + t) (by omega), hf (940 + 96 * c + t) (by omega)]
    exact hS c hc t ht
  · intro k hk
    rw [show N (obP q k) = M (obP r k) by rw [show obP q k = q + (47 + k) by unfold obP; omega, hM _ (by omega)]; congr 1; unfold obP; omega, hf (62 + k) (by omega), hf (56 + k) (by omega), hf (59 + k) (by omega), hf (65 + k) (by omega), hf (68 + k) (by omega)]
    exact hO k hk
  · intro k hk
    rw [hM 4 (by omega), hf _ (by omega)]
    exact hG k hk
  · intro k hk
    rw [hM 6 (by omega), hf _ (by omega)]
    exact hK k hk
  · unfold rlH
    rw [show N q = M r from hM 0 (by omega), hf 71 (by omega), hf 72 (by omega), hf 73 (by omega), hf 74 (by omega), hf 75 (by omega)]
    exact hH
  · intro e he
    rw [show N (noP q e) = M (noP r e) by rw [show noP q e = q + (50 + e) by unfold noP; omega, hM _ (by omega)]; congr 1; unfold noP; omega, hf (92 + e) (by omega), hf (112 + e) (by omega), hf (132 + e) (by omega), hf (152 + e) (by omega)]
    exact hN e he
theorem RZ_of {f g : Nat → Int32} {T n : Nat} (hn : n ≤ 20) (hf : ∀ j, 16 ≤ j ∧ j < 32 ∨ j = 71 ∨ 76 ≤ j ∧ j < 84 ∨ 92 ≤ j ∧ j < 112 ∨ 172 ≤ j ∧ j < 940 → g j = f j) (z : RZ f T n) : RZ g T n := by
  obtain ⟨z1, z2, z3, z4, z5⟩ := z
  refine ⟨by rw [hf 71 (by omega)]; exact z1, fun c hc => ?_, fun c hc j h1 h2 => ?_, fun e he => ?_, fun c hc => ?_⟩
  · rw [hf (16 + c) (by omega), hf (24 + c) (by omega)]; exact z2 c hc
  · rw [hf _ (by omega)]; exact z3 c hc j h1 h2
  · rw [hf (92 + e) (by omega)]; exact z4 e he
  · rw [hf (76 + c) (by omega)]; exact z5 c hc
theorem i_lt3 (x : Int32) : x < 3 ↔ ¬ 2 < x := by
  rw [Int32.lt_iff_toInt_lt, Int32.lt_iff_toInt_lt, show (3 : Int32).toInt = 3 by decide, show (2 : Int32).toInt = 2 by decide]
  omega
theorem i_lt_asymm {x y : Int32} (h : x < y) : ¬ y < x := fun z => absurd (Int32.lt_trans h z) Int32.lt_irrefl
theorem i_eq_of {x y : Int32} (h1 : ¬ x < y) (h2 : ¬ y < x) : x = y := by
  rw [Int32.lt_iff_toInt_lt] at h1 h2
  exact Int32.toInt_inj.mp (by omega)
theorem mxI_rd (x y : Int32) : mxI x y = if y < x then x else y := by
  unfold mxI
  by_cases h : x < y
  · rw [if_pos h, if_neg (i_lt_asymm h)]
  · rw [if_neg h]
    by_cases h2 : y < x
    · rw [if_pos h2]
    · rw [if_neg h2]; exact i_eq_of h h2
theorem absI_rd (x : Int32) : absI x = if x < 0 then -x else x := by
  unfold absI
  by_cases h : x < 0
  · rw [if_neg (Int32.not_le.mpr h), if_pos h]; exact Int32.zero_sub x
  · rw [if_pos (Int32.not_lt.mp h), if_neg h]
theorem shR_hold (f : Nat → Int32) (c : Nat) (x : Int32) : shR f c x = if x - f (24 + c) < 0 then 0 else holdS (shr0 f c x) := rfl
theorem shR_congr {f g : Nat → Int32} {c : Nat} (hc : c < 8) (h : ∀ j, j < 32 → g j = f j) (x : Int32) : shR g c x = shR f c x := by
  unfold shR shr0
  rw [h (0 + c) (by omega), h (8 + c) (by omega), h (16 + c) (by omega), h (24 + c) (by omega)]
theorem shC_shR {M : Mm} {q c t a g : Nat} {f : Nat → Int32} (h0 : M q 0 = f (0 + c)) (h1 : M q 1 = f (8 + c)) (h2 : M q 2 = f (16 + c)) (h3 : M q 3 = f (24 + c)) (ha : 2 ≤ a) (ha2 : a ≤ 12) (hg : g ≤ 11) (ea : f (16 + c) = nI a) (eg : f (24 + c) = nI g) (ht : t < 1000) : shC M q (nI t) = shR f c (nI t) := by
  have hp : (0 : Int32) < nI a := (nI_ltI (a := 0) (b := a) (by omega) (by omega)).mpr (by omega)
  rw [shR_hold]; unfold shC remC shr0
  rw [h0, h1, h2, h3, ea, eg, if_pos hp]
  by_cases h : t < g
  · rw [if_pos (nI_lt h (by omega)), if_pos (pk_sneg (by omega) h)]
  · rw [if_neg (nI_nlt (by omega) (by omega)), if_neg (by rw [pk_sub (by omega)]; exact nI_pos (by omega))]
theorem Rl_sh {M : Mm} {r T n T2 n2 c t : Nat} {f : Nat → Int32} (h : Rl M r f T n) (z : RZ f T2 n2) (hc : c < 8) (ht : t < 1000) : shC M (chP r c) (nI t) = shR f c (nI t) := by
  obtain ⟨q0, q1, q2, q3, -, -⟩ := h.1 c hc
  obtain ⟨a, g, ha, ha2, hg, ea, eg⟩ := z.2.1 c hc
  exact shC_shR q0 q1 q2 q3 ha ha2 hg ea eg ht
theorem gyF_gr {M : Mm} {r t : Nat} {f : Nat → Int32} (h : rlG M r f) (ht : t < 96) : gyF (M (r + 4)) (nI t / 4) = f (32 + t / 4) := by
  rw [show nI t / 4 = nI (t / 4) from pk_div (a := t) (d := 4) (by omega) (by omega) (by omega)]
  unfold gyF
  rw [if_neg (nI_pos (by omega)), if_neg (show ¬ 24 ≤ nI (t / 4) from nI_ge (a := t / 4) (b := 24) (by omega) (by omega)), nI_clamp (by omega)]
  exact h _ (by omega)
/-- 1. the sky and the shades are noted -/
theorem ndR_in (f : Nat → Int32) {t c s : Nat} (hc : c < 8) (ht : t < 96) (hs : s < 96) : ∀ i, i ≤ 8 → ndR f t i (940 + 96 * c + s) = if s = t ∧ c < i then shR f c (nI t) else f (940 + 96 * c + s) := by
  intro i
  induction i with
  | zero => intro _; rw [if_neg (by omega)]; exact upd_ne _ _ (by omega)
  | succ i ih =>
    intro hi
    show upd (ndR f t i) (940 + 96 * i + t) (shR (ndR f t i) i (nI t)) _ = _
    by_cases h : s = t ∧ c = i
    · rw [h.1, h.2, upd_at, if_pos (by omega)]; exact shR_congr (by omega) (fun j hj => ndR_lo f t (by omega) i) _
    · rw [upd_ne _ _ (by omega), ih (by omega)]
      by_cases h2 : s = t ∧ c < i
      · rw [if_pos h2, if_pos (by omega)]
      · rw [if_neg h2, if_neg (by omega)]
theorem ndR_sk (f : Nat → Int32) {t s : Nat} (ht : t < 96) : ∀ i, i ≤ 8 → ndR f t i (1708 + s) = if s = t then f (32 + t / 4) else f (1708 + s) := by
  intro i
  induction i with
  | zero =>
    intro _
    show upd f (1708 + t) (f (32 + t / 4)) _ = _
    by_cases h : s = t
    · rw [h, upd_at, if_pos rfl]
    · rw [upd_ne _ _ (by omega), if_neg h]
  | succ i ih =>
    intro hi
    exact (upd_ne _ _ (by omega)).trans (ih (by omega))
theorem Rl_nd {M : Mm} {r t n : Nat} {f : Nat → Int32} (ht : t < 96) (hn : n ≤ 20) (h : Rl M r f t n) (z : RZ f t n) : Rl (va_up M (r + 5 + 1) (upd (M (r + 5 + 1)) t (f (32 + t / 4)))) r (ndR f t 8) (t + 1) n := by
  obtain ⟨hC, hR, hS, hO, hG, hK, hH, hN⟩ := h
  have lo : ∀ j, j < 940 → ndR f t 8 j = f j := fun j hj => ndR_lo f t hj 8
  have e : ∀ x, x ≠ r + 5 + 1 → va_up M (r + 5 + 1) (upd (M (r + 5 + 1)) t (f (32 + t / 4))) x = M x := fun x hx => va_up_ne _ _ hx
  refine ⟨rlC_of (fun c hc => e _ (by (try simp only [chP, obP, noP] at *); omega)) (fun j hj => lo j (by omega)) hC, rlR_of (fun c hc => e _ (by (try simp only [chP, obP, noP] at *); omega)) (fun j hj => lo j (by omega)) hR, ?_, rlO_of (fun c hc => e _ (by (try simp only [chP, obP, noP] at *); omega)) (fun j hj => lo j (by omega)) hO, rlG_of (e _ (by (try simp only [chP, obP, noP] at *); omega)) (fun j hj => lo j (by omega)) hG, ?_, rlH_of (e _ (by (try simp only [chP, obP, noP] at *); omega)) (fun j hj => lo j (by omega)) hH, rlN_of hn (fun c hc => e _ (by (try simp only [chP, obP, noP] at *); omega)) (fun j hj => lo j (by omega)) hN⟩
  · intro c hc s hs hne
    rw [lo _ (by omega)] at hne
    have hst : s ≠ t := fun q => hne (by rw [q]; exact z.2.2.1 c hc t (Nat.le_refl _) ht)
    rw [e _ (by (try simp only [chP, obP, noP] at *); omega), ndR_in f hc ht (by omega) 8 (by omega), if_neg (fun q => hst q.1)]
    exact hS c hc s (by omega) hne
  · intro s hs
    rw [va_up_self, ndR_sk f ht 8 (by omega)]
    by_cases h : s = t
    · rw [h, upd_at, if_pos rfl]
    · rw [upd_ne _ _ h, if_neg h]; exact hK s (by omega)
theorem RZ_nd {f : Nat → Int32} {t n : Nat} (hn : n ≤ 20) (z : RZ f t n) : RZ (ndR f t 8) t n := RZ_of hn (fun j hj => ndR_lo f t (by omega) 8) z
/-- 2. an observer reads -/
theorem rdC_rdg {M : Mm} {r t k c : Nat} {f : Nat → Int32} (hO : rlO M r f) (hk : k < 3) (h74 : f 74 = nI t) : rdC (M (obP r k)) (shR f c (nI t)) (f (32 + t / 4)) = rdgR f t k c := by
  obtain ⟨-, o1, o2, -, -⟩ := hO k hk
  unfold rdC rdgR
  rw [o1, o2, h74]
  show (if f (32 + t / 4) < 3 then holdS (tldR f k (shR f c (nI t))) else if 2 < shR f c (nI t) then holdS (tldR f k (shR f c (nI t))) else 0) = _
  by_cases h1 : 2 < f (32 + t / 4)
  · rw [if_neg (fun q => (i_lt3 _).mp q h1)]
    by_cases h2 : 2 < shR f c (nI t)
    · rw [if_pos h2, if_neg (fun q => (i_lt3 _).mp q.2 h2)]; rfl
    · rw [if_neg h2, if_pos ⟨h1, (i_lt3 _).mpr h2⟩]
  · rw [if_pos ((i_lt3 _).mpr h1), if_neg (fun q => h1 q.1)]; rfl
theorem waC_hi (f : Nat → Int32) {t k c j : Nat} (h1 : j ≠ 172 + 96 * c + t) (h2 : j ≠ 65 + k) (h3 : j ≠ 68 + k) : waC f t k c j = f j := by
  unfold waC
  rw [upd_ne _ _ h3, upd_ne _ _ h2, upd_ne _ _ h1]
theorem Rl_wa {M : Mm} {r t n k : Nat} {f : Nat → Int32} (hk : k < 3) (ht : t < 96) (hn : n ≤ 20) (h74 : f 74 = nI t) (hw : f (62 + k) = -1 ∨ ∃ c, c < 8 ∧ f (62 + k) = nI c) (h : Rl M r f (t + 1) n) {T2 n2 : Nat} (z : RZ f T2 n2) (hX : ∀ c, c < 8 → f (940 + 96 * c + t) = shR f c (nI t)) : Rl (obsF M r t (f (32 + t / 4)) k) r (waR f t k) (t + 1) n := by
  have h0 := h
  obtain ⟨hC, hR, hS, hO, hG, hK, hH, hN⟩ := h
  have ho := (hO k hk).1
  rcases hw with hw | ⟨c, hc, hw⟩
  · rw [obsF_no (by rw [ho, hw]; decide), show waR f t k = f from if_pos hw]; exact h0
  · have ew : waR f t k = waC f t k c := by
      unfold waR
      rw [if_neg (by rw [hw]; exact nI_ne1 (by omega)), hw, nI_clamp (by omega)]
    have n0 : ∀ x s : Int32, nrC M (chP r c) t x s (obP r k) = M (obP r k) := fun x s => nrC_ne (by (try simp only [chP, obP, noP] at *); omega) (by (try simp only [chP, obP, noP] at *); omega)
    rw [obsF_yes hc (ho.trans hw), ew, Rl_sh h0 z hc (by omega), rdC_rdg hO hk h74, n0]
    have gA : waC f t k c (172 + 96 * c + t) = if f (172 + 96 * c + t) < rdgR f t k c then rdgR f t k c else f (172 + 96 * c + t) := by
      unfold waC; rw [upd_ne _ _ (by omega), upd_ne _ _ (by omega), upd_at]
    have gE : waC f t k c (65 + k) = f (65 + k) + absI (rdgR f t k c - shR f c (nI t)) := by
      unfold waC; rw [upd_ne _ _ (by omega), upd_at, upd_ne _ _ (by omega), absI_rd, h74]
    have gD : waC f t k c (68 + k) = f (68 + k) + 1 := by
      unfold waC; rw [upd_at, upd_ne _ _ (by omega), upd_ne _ _ (by omega)]
    have gO : ∀ j, j ≠ 172 + 96 * c + t → j ≠ 65 + k → j ≠ 68 + k → waC f t k c j = f j := fun j h1 h2 h3 => waC_hi f h1 h2 h3
    have hXc := hX c hc
    generalize waC f t k c = g at gA gE gD gO ⊢
    generalize rdgR f t k c = x at gA gE ⊢
    generalize shR f c (nI t) = s at gE hXc ⊢
    have eN : ∀ y, y ≠ chP r c + 1 + 1 → y ≠ chP r c + 3 + 1 → y ≠ obP r k → va_up (nrC M (chP r c) t x s) (obP r k) (ctC (M (obP r k)) x s) y = M y := fun y h1 h2 h3 => (va_up_ne _ _ h3).trans (nrC_ne h1 h2)
    have eR : va_up (nrC M (chP r c) t x s) (obP r k) (ctC (M (obP r k)) x s) (chP r c + 1 + 1) = upd (M (chP r c + 1 + 1)) t (mxI x (M (chP r c + 1 + 1) t)) := by
      rw [va_up_ne _ _ (by (try simp only [chP, obP, noP] at *); omega)]; unfold nrC; rw [va_up_ne _ _ (by (try simp only [chP, obP, noP] at *); omega), va_up_self]
    have eS : va_up (nrC M (chP r c) t x s) (obP r k) (ctC (M (obP r k)) x s) (chP r c + 3 + 1) = upd (M (chP r c + 3 + 1)) t s := by
      rw [va_up_ne _ _ (by (try simp only [chP, obP, noP] at *); omega)]; unfold nrC; rw [va_up_self]
    have eO : va_up (nrC M (chP r c) t x s) (obP r k) (ctC (M (obP r k)) x s) (obP r k) = ctC (M (obP r k)) x s := va_up_self _ _ _
    generalize va_up (nrC M (chP r c) t x s) (obP r k) (ctC (M (obP r k)) x s) = N at eN eR eS eO ⊢
    refine ⟨rlC_of (fun c hc => eN _ (by (try simp only [chP, obP, noP] at *); omega) (by (try simp only [chP, obP, noP] at *); omega) (by (try simp only [chP, obP, noP] at *); omega)) (fun j hj => gO j (by omega) (by omega) (by omega)) hC, ?_, ?_, ?_, rlG_of (eN _ (by (try simp only [chP, obP, noP] at *); omega) (by (try simp only [chP, obP, noP] at *); omega) (by (try simp only [chP, obP, noP] at *); omega)) (fun j hj => gO j (by omega) (by omega) (by omega)) hG, rlK_of (by omega) (eN _ (by (try simp only [chP, obP, noP] at *); omega) (by (try simp only [chP, obP, noP] at *); omega) (by (try simp only [chP, obP, noP] at *); omega)) (fun j hj => gO j (by omega) (by omega) (by omega)) hK, rlH_of (eN _ (by (try simp only [chP, obP, noP] at *); omega) (by (try simp only [chP, obP, noP] at *); omega) (by (try simp only [chP, obP, noP] at *); omega)) (fun j hj => gO j (by omega) (by omega) (by omega)) hH, rlN_of hn (fun c hc => eN _ (by (try simp only [chP, obP, noP] at *); omega) (by (try simp only [chP, obP, noP] at *); omega) (by (try simp only [chP, obP, noP] at *); omega)) (fun j hj => gO j (by omega) (by omega) (by omega)) hN⟩
    · intro d hd u hu
      by_cases hdc : d = c
      · subst hdc
        rw [eR]
        by_cases hut : u = t
        · subst hut
          rw [upd_at, gA, mxI_rd, hR d hd u hu]
        · rw [upd_ne _ _ hut, gO _ (by omega) (by omega) (by omega)]; exact hR d hd u hu
      · rw [eN _ (by (try simp only [chP, obP, noP] at *); omega) (by (try simp only [chP, obP, noP] at *); omega) (by (try simp only [chP, obP, noP] at *); omega), gO _ (by omega) (by omega) (by omega)]; exact hR d hd u hu
    · intro d hd u hu hne
      by_cases hdc : d = c
      · subst hdc
        rw [eS, gO _ (by omega) (by omega) (by omega)]
        by_cases hut : u = t
        · subst hut
          rw [upd_at, hXc]
        · rw [gO _ (by omega) (by omega) (by omega)] at hne
          rw [upd_ne _ _ hut]; exact hS d hd u hu hne
      · rw [gO _ (by omega) (by omega) (by omega)] at hne
        rw [eN _ (by (try simp only [chP, obP, noP] at *); omega) (by (try simp only [chP, obP, noP] at *); omega) (by (try simp only [chP, obP, noP] at *); omega), gO _ (by omega) (by omega) (by omega)]; exact hS d hd u hu hne
    · intro d hd
      by_cases hdk : d = k
      · subst hdk
        obtain ⟨o0, o1, o2, o3, o4⟩ := hO d hd
        rw [eO, gE, gD, gO (62 + d) (by omega) (by omega) (by omega), gO (56 + d) (by omega) (by omega) (by omega), gO (59 + d) (by omega) (by omega) (by omega), ← o3, ← o4]
        exact ⟨o0, o1, o2, rfl, rfl⟩
      · rw [eN _ (by (try simp only [chP, obP, noP] at *); omega) (by (try simp only [chP, obP, noP] at *); omega) (by (try simp only [chP, obP, noP] at *); omega), gO (62 + d) (by omega) (by omega) (by omega), gO (56 + d) (by omega) (by omega) (by omega), gO (59 + d) (by omega) (by omega) (by omega), gO (65 + d) (by omega) (by omega) (by omega), gO (68 + d) (by omega) (by omega) (by omega)]
        exact hO d hd
theorem waR_hi (f : Nat → Int32) {t k j : Nat} (hk : k < 3) (h1 : ∀ c, j ≠ 172 + 96 * c + t) (h2 : j < 65 ∨ 71 ≤ j) : waR f t k j = f j := by
  unfold waR
  split
  · rfl
  · exact waC_hi f (h1 _) (by omega) (by omega)
theorem waR_hi8 (f : Nat → Int32) {t k j : Nat} (hk : k < 3) (hw : f (62 + k) = -1 ∨ ∃ c, c < 8 ∧ f (62 + k) = nI c) (h1 : ∀ c, c < 8 → j ≠ 172 + 96 * c + t) (h2 : j < 65 ∨ 71 ≤ j) : waR f t k j = f j := by
  unfold waR
  rcases hw with hw | ⟨c, hc, hw⟩
  · rw [if_pos hw]
  · split
    · rfl
    · rw [hw, nI_clamp (by omega)]; exact waC_hi f (h1 c hc) (by omega) (by omega)
theorem RZ_wa {f : Nat → Int32} {t n k : Nat} (ht : t < 96) (hn : n ≤ 20) (hk : k < 3) (z : RZ f (t + 1) n) : RZ (waR f t k) (t + 1) n := by
  have e : ∀ j, 16 ≤ j ∧ j < 32 ∨ j = 71 ∨ 76 ≤ j ∧ j < 84 ∨ 92 ≤ j ∧ j < 112 → waR f t k j = f j := fun j hj => waR_hi f hk (fun c => by omega) (by omega)
  obtain ⟨z1, z2, z3, z4, z5⟩ := z
  refine ⟨by rw [e 71 (by omega)]; exact z1, fun c hc => ?_, fun c hc j h1 h2 => ?_, fun i hi => ?_, fun c hc => ?_⟩
  · rw [e (16 + c) (by omega), e (24 + c) (by omega)]; exact z2 c hc
  · rw [waR_hi f hk (fun d q => by omega) (by omega)]; exact z3 c hc j h1 h2
  · rw [e (92 + i) (by omega)]; exact z4 i hi
  · rw [e (76 + c) (by omega)]; exact z5 c hc
theorem RZ_le {f : Nat → Int32} {T T2 n : Nat} (hT : T ≤ T2) (z : RZ f T n) : RZ f T2 n := ⟨z.1, z.2.1, fun c hc j h1 h2 => z.2.2.1 c hc j (by omega) h2, z.2.2.2⟩
/-- all observers read -/
theorem Rl_waI {M : Mm} {r t p n : Nat} {f : Nat → Int32} (hv : RV f t p n) (h : Rl M r f (t + 1) n) (z : RZ f (t + 1) n) (hX : ∀ c, c < 8 → f (940 + 96 * c + t) = shR f c (nI t)) : ∀ k, k ≤ 3 → Rl (trF M r t (f (32 + t / 4)) k) r (waI f t k) (t + 1) n ∧ RZ (waI f t k) (t + 1) n := by
  intro k
  induction k with
  | zero => intro _; exact ⟨h, z⟩
  | succ k ih =>
    intro hk
    obtain ⟨i1, i2⟩ := ih (by omega)
    have lo : ∀ j, j < 65 ∨ 71 ≤ j ∧ j < 172 → waI f t k j = f j := fun j hj => waI_lo f hj k (by omega)
    have hi : ∀ k2, k2 ≤ 3 → ∀ c, c < 8 → waI f t k2 (940 + 96 * c + t) = f (940 + 96 * c + t) := by
      intro k2
      induction k2 with
      | zero => intro _ c _; rfl
      | succ k2 ih2 => intro hk2 c hc; exact (waR_hi8 _ (by omega) (by rw [waI_lo f (by omega) k2 (by omega)]; exact hv.2.2.2.2.2.2.2.2 k2 (by omega)) (fun d hd => by have := hv.1; omega) (by omega)).trans (ih2 (by omega) c hc)
    have hv1 := hv.1
    have hv6 := hv.2.2.2.2.2.1
    have hg : f (32 + t / 4) = waI f t k (32 + t / 4) := (lo _ (by omega)).symm
    refine ⟨?_, RZ_wa (by omega) (by omega) (by omega) i2⟩
    show Rl (obsF (trF M r t (f (32 + t / 4)) k) r t (f (32 + t / 4)) k) r (waR (waI f t k) t k) (t + 1) n
    generalize trF M r t (f (32 + t / 4)) k = N at i1 ⊢
    rw [hg]
    refine Rl_wa (by omega) (by omega) (by omega) ((lo 74 (by omega)).trans hv.2.1) ?_ i1 i2 (fun c hc => ?_)
    · rw [lo (62 + k) (by omega)]; exact hv.2.2.2.2.2.2.2.2 k (by omega)
    · rw [hi k (by omega) c hc, hX c hc]; exact (shR_congr hc (fun j hj => lo j (by omega)) _).symm
/-- 3. who watches becomes more tired -/
theorem Rl_ti {M : Mm} {r T n k : Nat} {f : Nat → Int32} (hk : k < 3) (hT : T ≤ 96) (hn : n ≤ 20) (h : Rl M r f T n) : Rl (va_up M (obP r k) (tiC (M (obP r k)))) r (upd f (59 + k) (if f (62 + k) = -1 then 0 else f (59 + k) + 1)) T n := by
  obtain ⟨hC, hR, hS, hO, hG, hK, hH, hN⟩ := h
  have e : ∀ x, x ≠ obP r k → va_up M (obP r k) (tiC (M (obP r k))) x = M x := fun x hx => va_up_ne _ _ hx
  have g : ∀ j, j ≠ 59 + k → upd f (59 + k) (if f (62 + k) = -1 then 0 else f (59 + k) + 1) j = f j := fun j hj => upd_ne _ _ hj
  refine ⟨rlC_of (fun c hc => e _ (by (try simp only [chP, obP, noP] at *); omega)) (fun j hj => g j (by omega)) hC, rlR_of (fun c hc => e _ (by (try simp only [chP, obP, noP] at *); omega)) (fun j hj => g j (by omega)) hR, rlS_of hT (fun c hc => e _ (by (try simp only [chP, obP, noP] at *); omega)) (fun j hj => g j (by omega)) hS, ?_, rlG_of (e _ (by (try simp only [chP, obP, noP] at *); omega)) (fun j hj => g j (by omega)) hG, rlK_of hT (e _ (by (try simp only [chP, obP, noP] at *); omega)) (fun j hj => g j (by omega)) hK, rlH_of (e _ (by (try simp only [chP, obP, noP] at *); omega)) (fun j hj => g j (by omega)) hH, rlN_of hn (fun c hc => e _ (by (try simp only [chP, obP, noP] at *); omega)) (fun j hj => g j (by omega)) hN⟩
  intro d hd
  obtain ⟨o0, o1, o2, o3, o4⟩ := hO d hd
  by_cases hdk : d = k
  · subst hdk
    rw [va_up_self, upd_at, g _ (by omega), g _ (by omega), g _ (by omega), g _ (by omega), ← o0, ← o2]
    exact ⟨rfl, o1, rfl, o3, o4⟩
  · rw [e _ (by (try simp only [chP, obP, noP] at *); omega), g _ (by omega), g _ (by omega), g _ (by omega), g _ (by omega), g _ (by omega)]
    exact ⟨o0, o1, o2, o3, o4⟩
theorem Rl_tiI {M : Mm} {r T n : Nat} {f : Nat → Int32} (hT : T ≤ 96) (hn : n ≤ 20) (h : Rl M r f T n) : ∀ k, k ≤ 3 → Rl (tiO M r k) r (tiI f k) T n := by
  intro k
  induction k with
  | zero => intro _; exact h
  | succ k ih => intro hk; exact Rl_ti (by omega) hT hn (ih (by omega))
theorem RZ_ti {f : Nat → Int32} {T n : Nat} (hn : n ≤ 20) (z : RZ f T n) : RZ (tiI f 3) T n := RZ_of hn (fun j hj => tiI_lo f (by omega) 3 (by omega)) z

