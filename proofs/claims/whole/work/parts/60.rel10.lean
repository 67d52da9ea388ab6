
/-! a part, and the fault, on both sides -/
theorem g1R_9 {F f g k : Nat → Int32} {a L : Nat} (h : PD F f g k a L) : g1R f k 9 = nI (a + 1) := k_1 h
theorem fin_pair {F f g1 k1 : Nat → Int32} {L a m o : Nat} {c : Int32} {p q : PR} (J : JJ F f L (a + 1) p q (fun g2 k2 => (∃ d, d ≤ m ∧ g2 4 = nI d ∧ k2 12 = nI d) ∧ (∃ d, d ≤ o ∧ g2 5 = nI d ∧ k2 13 = nI d) ∧ g2 3 = g1 3 ∧ k2 11 = k1 11)) (e3 : g1 3 = c) (e11 : k1 11 = c) (hc : c = 100 ∧ m = 7 ∨ c = 102 ∧ m = 7 ∨ c = 111 ∧ m = 2 ∧ o = 7) : JJ F f L a p q OKF := by
  obtain ⟨b, hb, hP, hS⟩ := J
  rcases hS with ⟨p1, q1, hab, ⟨x, hx, x4, x12⟩, ⟨y, hy, y5, y13⟩, y3, y11⟩ | ⟨p1, q1⟩
  · have z11 : q.2 11 = c := y11.trans e11
    refine ⟨b, by omega, hP, Or.inl ⟨p1, q1, by omega, ?_⟩⟩
    rcases hc with ⟨rfl, rfl⟩ | ⟨rfl, rfl⟩ | ⟨rfl, rfl, rfl⟩
    · exact ⟨by rw [z11]; decide, y3.trans (e3.trans z11.symm), x4.trans x12.symm, fun _ => y5.trans y13.symm, (fun z => absurd z (by rw [z11]; decide)), x, by omega, x12, (fun z => absurd z (by rw [z11]; decide)), fun _ => by omega, (fun z => absurd z (by rw [z11]; decide)), (fun z => absurd z (by rw [z11]; decide))⟩
    · exact ⟨by rw [z11]; decide, y3.trans (e3.trans z11.symm), x4.trans x12.symm, fun _ => y5.trans y13.symm, (fun z => absurd z (by rw [z11]; decide)), x, by omega, x12, (fun z => absurd z (by rw [z11]; decide)), fun _ => by omega, (fun z => absurd z (by rw [z11]; decide)), (fun z => absurd z (by rw [z11]; decide))⟩
    · exact ⟨by rw [z11]; decide, y3.trans (e3.trans z11.symm), x4.trans x12.symm, fun _ => y5.trans y13.symm, fun _ => by rw [y13]; exact in_k (n := 7) hy (by decide), x, by omega, x12, fun _ => by omega, (fun z => absurd z (by rw [z11]; decide)), (fun z => absurd z (by rw [z11]; decide)), (fun z => absurd z (by rw [z11]; decide))⟩
  · exact ⟨b, by omega, hP, Or.inr ⟨p1, q1⟩⟩
theorem fin_one {F f g1 k1 : Nat → Int32} {L a m : Nat} {c : Int32} {p q : PR} (J : JJ F f L (a + 1) p q (fun g2 k2 => (∃ d, d ≤ m ∧ g2 4 = nI d ∧ k2 10 = nI d) ∧ g2 3 = g1 3 ∧ g2 5 = g1 5 ∧ k2 11 = k1 11 ∧ k2 12 = k1 12 ∧ k2 13 = k1 13)) (e3 : g1 3 = c) (e11 : k1 11 = c) (hc : c = 97 ∧ m = 19 ∨ c = 114 ∧ m = 2) : JJ F f L a p (ptA q) OKF := by
  obtain ⟨b, hb, hP, hS⟩ := J
  have hP2 : PD F f p.2 (ptA q).2 b L := PD_of hP hP.1 hP.2.2.1 rfl hP.2.2.2.2.1 rfl
  rcases hS with ⟨p1, q1, hab, ⟨x, hx, x4, x10⟩, y3, y5, y11, y12, y13⟩ | ⟨p1, q1⟩
  · have z11 : (ptA q).2 11 = c := y11.trans e11
    have z12 : (ptA q).2 12 = nI x := x10
    refine ⟨b, by omega, hP2, Or.inl ⟨p1, q1, by omega, ?_⟩⟩
    rcases hc with ⟨rfl, rfl⟩ | ⟨rfl, rfl⟩
    · exact ⟨by rw [z11]; decide, y3.trans (e3.trans z11.symm), x4.trans z12.symm, (fun z => absurd z (by rw [z11]; decide)), (fun z => absurd z (by rw [z11]; decide)), x, by omega, z12, (fun z => absurd z (by rw [z11]; decide)), (fun z => absurd z (by rw [z11]; decide)), (fun z => absurd z (by rw [z11]; decide)), fun _ => by omega⟩
    · exact ⟨by rw [z11]; decide, y3.trans (e3.trans z11.symm), x4.trans z12.symm, (fun z => absurd z (by rw [z11]; decide)), (fun z => absurd z (by rw [z11]; decide)), x, by omega, z12, fun _ => by omega, (fun z => absurd z (by rw [z11]; decide)), (fun z => absurd z (by rw [z11]; decide)), (fun z => absurd z (by rw [z11]; decide))⟩
  · exact ⟨b, by omega, hP2, Or.inr ⟨p1, q1⟩⟩
theorem fin_grey {F f g1 k1 : Nat → Int32} {L a : Nat} {p q : PR} (J : JJ F f L (a + 1) p q (fun g2 k2 => (∃ d, d ≤ 23 ∧ g2 4 = nI d ∧ k2 10 = nI d) ∧ g2 3 = g1 3 ∧ g2 5 = g1 5 ∧ k2 11 = k1 11 ∧ k2 12 = k1 12 ∧ k2 13 = k1 13)) (e3 : g1 3 = 103) (e11 : k1 11 = 103) : JJ F f L a (andF p (fun g => andF (tsF F g 61) (fun g => t2F F g 4))) (if q.1 = true then (if (takesR f (prG q) 61).1 = true then pr2 (digR f (takesR f (prG q) 61).2 4) else ptX (takesR f (prG q) 61).2) else ptX (prG q)) OKF := by
  obtain ⟨b, hb, hP, hS⟩ := J
  rcases hS with ⟨p1, q1, hab, ⟨x, hx, x4, x10⟩, y3, y5, y11, y12, y13⟩ | ⟨p1, q1⟩
  · rw [andF_t p1, if_pos q1]
    have hP2 : PD F f p.2 (prG q) b L := PD_of hP hP.1 hP.2.2.1 rfl hP.2.2.2.2.1 rfl
    have w012 : prG q 12 = nI x := x10
    have w011 : prG q 11 = 103 := y11.trans e11
    generalize prG q = k2 at hP2 w012 w011 ⊢
    obtain ⟨c2, hc2, hP3, hS2⟩ := ts_J hP2 61
    generalize tsF F p.2 61 = p2 at hP3 hS2 ⊢
    generalize takesR f k2 61 = q2 at hP3 hS2 ⊢
    rcases hS2 with ⟨p2t, q2t, hbc, w3, w4, w5, w10, w11, w12, w13⟩ | ⟨p2t, q2t⟩
    · rw [andF_t p2t, if_pos q2t]
      have J3 := t2_J (m := 4) hP3 (by omega)
      rw [show nI 4 = 4 from rfl] at J3
      obtain ⟨d2, hd2, hP4, hS3⟩ := J3
      generalize t2F F p2.2 4 = p3 at hP4 hS3 ⊢
      generalize digR f q2.2 4 = q3 at hP4 hS3 ⊢
      have hP5 : PD F f p3.2 (pr2 q3).2 d2 L := PD_of hP4 hP4.1 hP4.2.2.1 rfl hP4.2.2.2.2.1 rfl
      rcases hS3 with ⟨p3t, q3t, hcd, ⟨y, hy, v5, v10⟩, v3, v4, v11, v12, v13⟩ | ⟨p3t, q3t⟩
      · have z11 : (pr2 q3).2 11 = 103 := v11.trans (w11.trans w011)
        have z12 : (pr2 q3).2 12 = nI x := v12.trans (w12.trans w012)
        have z13 : (pr2 q3).2 13 = nI y := v10
        exact ⟨d2, by omega, hP5, Or.inl ⟨p3t, q3t, by omega, by rw [z11]; decide, v3.trans (w3.trans (y3.trans (e3.trans z11.symm))), (v4.trans (w4.trans x4)).trans z12.symm, fun _ => v5.trans z13.symm, (fun z => absurd z (by rw [z11]; decide)), x, by omega, z12, (fun z => absurd z (by rw [z11]; decide)), (fun z => absurd z (by rw [z11]; decide)), fun _ => by omega, (fun z => absurd z (by rw [z11]; decide))⟩⟩
      · exact ⟨d2, by omega, hP5, Or.inr ⟨p3t, q3t⟩⟩
    · rw [andF_f p2t, if_neg (by rw [q2t]; exact Bool.false_ne_true)]
      exact ⟨c2, by omega, PD_of hP3 hP3.1 hP3.2.2.1 rfl hP3.2.2.2.2.1 rfl, Or.inr ⟨rfl, rfl⟩⟩
  · rw [andF_f p1, if_neg (by rw [q1]; exact Bool.false_ne_true)]
    exact ⟨b, by omega, PD_of hP hP.1 hP.2.2.1 rfl hP.2.2.2.2.1 rfl, Or.inr ⟨rfl, rfl⟩⟩
theorem J_pair {F f g k : Nat → Int32} {a L : Nat} (h : PD F f g k a L) {m o : Int32} (M O : Nat) (hm : nI M = m) (ho : nI O = o) (hM : M ≤ 9) (hO : O ≤ 9) : JJ F f L a (andF (tfF F g m) (fun g => t2F F g o)) (pairR f k m o) (fun g2 k2 => (∃ d, d ≤ M ∧ g2 4 = nI d ∧ k2 12 = nI d) ∧ (∃ d, d ≤ O ∧ g2 5 = nI d ∧ k2 13 = nI d) ∧ g2 3 = g 3 ∧ k2 11 = k 11) := by
  subst hm; subst ho; exact pair_J h hM hO
theorem J_num {F f g k : Nat → Int32} {a L : Nat} (h : PD F f g k a L) {m : Int32} (M : Nat) (hm : nI M = m) (hM : 9 ≤ M) (hM2 : M < 100) : JJ F f L a (tnF F g m) (upP f k m) (fun g2 k2 => (∃ x, x ≤ M ∧ g2 4 = nI x ∧ k2 10 = nI x) ∧ g2 3 = g 3 ∧ g2 5 = g 5 ∧ k2 11 = k 11 ∧ k2 12 = k 12 ∧ k2 13 = k 13) := by
  subst hm; exact tn_J h hM hM2
theorem J_dig {F f g k : Nat → Int32} {a L : Nat} (h : PD F f g k a L) {m : Int32} (M : Nat) (hm : nI M = m) (hM : M ≤ 9) : JJ F f L a (tfF F g m) (digR f k m) (fun g2 k2 => (∃ d, d ≤ M ∧ g2 4 = nI d ∧ k2 10 = nI d) ∧ g2 3 = g 3 ∧ g2 5 = g 5 ∧ k2 11 = k 11 ∧ k2 12 = k 12 ∧ k2 13 = k 13) := by
  subst hm; exact tf_J h hM
theorem part_J {F f g k : Nat → Int32} {a L : Nat} (h : PD F f g k a L) : JJ F f L a (tpF F g) (partR f k) OKF := by
  unfold tpF partR
  by_cases ha : a < L
  · rw [sg_in h ha, if_neg (ne_in h ha), at_in h]
    have h' : PD F f (upd g 3 (f a)) k a L := PD_of h h.1 h.2.2.1 rfl h.2.2.2.2.1 rfl
    have eT := (ts_ok h' ha rfl).1
    have h1 : PD F f (upd (upd g 3 (f a)) 1 (nI (a + 1))) (g1R f k) (a + 1) L := PD_of h (by omega) rfl rfl (g1R_9 h) rfl
    have e3 : upd (upd g 3 (f a)) 1 (nI (a + 1)) 3 = f a := rfl
    have e11 : g1R f k 11 = f a := at_in h
    have e9 : g1R f k 9 = nI (a + 1) := g1R_9 h
    have e8 : g1R f k 8 = k 8 := rfl
    have h0 : PD F f (upd g 3 (f a)) (upd (g1R f k) 9 (g1R f k 9 - 1)) a L := PD_of h h.1 h.2.2.1 rfl (by show g1R f k 9 - 1 = nI a; rw [e9]; exact nI_pred a) rfl
    generalize f a = c at *
    generalize upd g 3 c = g0 at *
    generalize upd g0 1 (nI (a + 1)) = g1 at *
    generalize g1R f k = k1 at *
    have tT : ∀ n : (Nat → Int32) → PR, andF (tsF F g0 c) n = n g1 := fun n => by rw [andF_t (by rw [eT]), eT]
    unfold tpG partS
    by_cases h46 : c = 46
    · rw [if_pos h46, if_pos h46, tT]
      obtain ⟨p1, q1, b, hb, hP, ⟨x, hx, x4, x12⟩, y3, y11⟩ := tt_J h1
      generalize ttF F g1 = p at *
      generalize ptD f k1 = q at *
      have z11 : q.2 11 = 46 := y11.trans (e11.trans h46)
      exact ⟨b, by omega, hP, Or.inl ⟨p1, q1, by omega, by rw [z11]; decide, y3.trans (e3.trans (h46.trans z11.symm)), x4.trans x12.symm, (fun z => absurd z (by rw [z11]; decide)), (fun z => absurd z (by rw [z11]; decide)), x, by omega, x12, (fun z => absurd z (by rw [z11]; decide)), (fun z => absurd z (by rw [z11]; decide)), (fun z => absurd z (by rw [z11]; decide)), (fun z => absurd z (by rw [z11]; decide))⟩⟩
    rw [if_neg h46, if_neg h46]
    by_cases h97 : c = 97
    · rw [if_pos h97, if_pos h97, tT]
      exact fin_one (J_num h1 19 rfl (by omega) (by omega)) e3 e11 (Or.inl ⟨h97, rfl⟩)
    rw [if_neg h97, if_neg h97]
    by_cases h100 : c = 100
    · rw [if_pos h100, if_pos h100, tT]
      exact fin_pair (J_pair h1 7 2 rfl rfl (by omega) (by omega)) e3 e11 (Or.inl ⟨h100, rfl⟩)
    rw [if_neg h100, if_neg h100]
    by_cases h102 : c = 102
    · rw [if_pos h102, if_pos h102, tT]
      exact fin_pair (J_pair h1 7 9 rfl rfl (by omega) (by omega)) e3 e11 (Or.inr (Or.inl ⟨h102, rfl⟩))
    rw [if_neg h102, if_neg h102]
    by_cases h103 : c = 103
    · rw [if_pos h103, if_pos h103, tT]
      unfold ptG
      exact fin_grey (J_num h1 23 rfl (by omega) (by omega)) (e3.trans h103) (e11.trans h103)
    rw [if_neg h103, if_neg h103]
    by_cases h111 : c = 111
    · rw [if_pos h111, if_pos h111, tT]
      exact fin_pair (J_pair h1 2 7 rfl rfl (by omega) (by omega)) e3 e11 (Or.inr (Or.inr ⟨h111, rfl, rfl⟩))
    rw [if_neg h111, if_neg h111]
    by_cases h114 : c = 114
    · rw [if_pos h114, if_pos h114, tT]
      exact fin_one (J_dig h1 2 rfl (by omega)) e3 e11 (Or.inr ⟨h114, rfl⟩)
    rw [if_neg h114, if_neg h114]
    exact ⟨a, Nat.le_refl _, h0, Or.inr ⟨rfl, rfl⟩⟩
  · rw [sg_end h ha, if_pos (eq_end h ha)]
    have e : tpG F (upd g 3 0) 0 = (false, upd g 3 0) := by
      unfold tpG
      rw [if_neg (by decide), if_neg (by decide), if_neg (by decide), if_neg (by decide), if_neg (by decide), if_neg (by decide), if_neg (by decide)]
    rw [e]
    exact ⟨a, Nat.le_refl _, PD_of h h.1 h.2.2.1 rfl h.2.2.2.2.1 rfl, Or.inr ⟨rfl, rfl⟩⟩
/-- where a part of the text f of length L ends, begun at a; whether it is one -/
def gcN (a L : Nat) : Nat → Int32 := fun j => if j = 1 then nI a else if j = 2 then nI L else 0
def kcN (a L : Nat) : Nat → Int32 := fun j => if j = 9 then nI a else if j = 8 then nI L else 0
def okP (f : Nat → Int32) (L a : Nat) : Bool := (tpF f (gcN a L)).1
def nxP (f : Nat → Int32) (L a : Nat) : Nat := ((tpF f (gcN a L)).2 1).toNatClampNeg
theorem PD_gc {F f g k : Nat → Int32} {a L : Nat} (h : PD F f g k a L) : PD f f (gcN a L) k a L := ⟨h.1, h.2.1, rfl, rfl, h.2.2.2.2.1, h.2.2.2.2.2.1, fun _ _ => rfl⟩
theorem PD_kc (f : Nat → Int32) {a L : Nat} (h1 : a ≤ L) (h2 : L ≤ 60) : PD f f (gcN a L) (kcN a L) a L := ⟨h1, h2, rfl, rfl, rfl, rfl, fun _ _ => rfl⟩
theorem part_is {F f g k : Nat → Int32} {a L : Nat} (h : PD F f g k a L) : (tpF F g).1 = okP f L a ∧ (partR f k).1 = okP f L a ∧ PD F f (tpF F g).2 (partR f k).2 (nxP f L a) L ∧ a ≤ nxP f L a ∧ (okP f L a = true → a < nxP f L a ∧ OKF (tpF F g).2 (partR f k).2) := by
  obtain ⟨b, hb, hP, hS⟩ := part_J h
  obtain ⟨c, hc, hQ, hS2⟩ := part_J (PD_gc h)
  have hL := hP.2.1
  have hbc : b = c := nI_inj (by have := hP.1; omega) (by have := hQ.1; omega) (hP.2.2.2.2.1.symm.trans hQ.2.2.2.2.1)
  have hn : nxP f L a = b := by
    unfold nxP
    rw [hQ.2.2.1, nI_clamp (by have := hQ.1; omega), hbc]
  rw [hn]
  have hk : (tpF f (gcN a L)).1 = (partR f k).1 := by
    rcases hS2 with ⟨p, q, -⟩ | ⟨p, q⟩
    · rw [p, q]
    · rw [p, q]
  have hk2 : (tpF F g).1 = (partR f k).1 := by
    rcases hS with ⟨p, q, -⟩ | ⟨p, q⟩
    · rw [p, q]
    · rw [p, q]
  refine ⟨hk2.trans hk.symm, hk.symm, hP, hb, fun w => ?_⟩
  have w2 : (partR f k).1 = true := hk.symm.trans w
  rcases hS with ⟨p, q, hab, s⟩ | ⟨p, q⟩
  · exact ⟨hab, s⟩
  · rw [q] at w2; exact absurd w2 Bool.false_ne_true
theorem nx_le (f : Nat → Int32) {a L : Nat} (h1 : a ≤ L) (h2 : L ≤ 60) : nxP f L a ≤ L ∧ (okP f L a = true → a < nxP f L a) := by
  obtain ⟨-, -, hP, -, h⟩ := part_is (PD_kc f h1 h2)
  exact ⟨hP.1, fun w => (h w).1⟩
/-- the fault of the text from a on -/
def fvN (f : Nat → Int32) (L : Nat) : Nat → Nat → Int32
  | 0, a => nI a
  | n + 1, a => if okP f L a = true then (if nxP f L a = L then -1 else if f (nxP f L a) = 59 then fvN f L n (nxP f L a + 1) else nI (nxP f L a)) else nI (nxP f L a)
theorem fv_fuel (f : Nat → Int32) {L : Nat} (hL : L ≤ 60) : ∀ n m a, a ≤ L → L < a + 2 * n → L < a + 2 * m → fvN f L n a = fvN f L m a := by
  intro n
  induction n with
  | zero => intro m a h1 h2; exact absurd h2 (by omega)
  | succ n ih =>
    intro m a h1 h2 h3
    obtain ⟨m, rfl⟩ : ∃ j, m = j + 1 := ⟨m - 1, by omega⟩
    unfold fvN
    by_cases w : okP f L a = true
    · have hx := nx_le f h1 hL
      have hx2 := hx.2 w
      rw [if_pos w, if_pos w]
      by_cases w2 : nxP f L a = L
      · rw [if_pos w2, if_pos w2]
      · rw [if_neg w2, if_neg w2]
        by_cases w3 : f (nxP f L a) = 59
        · rw [if_pos w3, if_pos w3]; exact ih m _ (by have := hx.1; omega) (by omega) (by omega)
        · rw [if_neg w3, if_neg w3]
    · rw [if_neg w, if_neg w]
theorem ff_is {F f : Nat → Int32} {L : Nat} : ∀ n g k a, PD F f g k a L → L < a + 2 * n → (ffF F n g).1 = fvN f L n a ∧ (ffF F n g).2 2 = nI L := by
  intro n
  induction n with
  | zero => intro g k a h h2; exact absurd h2 (by have := h.1; omega)
  | succ n ih =>
    intro g k a h h2
    obtain ⟨e1, e2, hP, hle, hok⟩ := part_is h
    have hL := hP.2.1
    have hb := hP.1
    unfold ffF fvN
    rw [e1]
    by_cases w : okP f L a = true
    · rw [if_pos w, if_pos w, hP.2.2.1, hP.2.2.2.1]
      have hab := (hok w).1
      by_cases w2 : nxP f L a = L
      · rw [if_pos w2, if_pos (by rw [w2])]; exact ⟨rfl, hP.2.2.2.1⟩
      · rw [if_neg w2, if_neg (fun z => w2 (nI_inj (by omega) (by omega) z))]
        by_cases w3 : f (nxP f L a) = 59
        · obtain ⟨t1, t2⟩ := ts_ok hP (by omega) w3
          rw [if_pos (by rw [t1]), if_pos w3, t1]
          exact ih _ (upd (partR f k).2 9 (nI (nxP f L a + 1))) _ (PD_of hP (by omega) rfl rfl rfl rfl) (by omega)
        · obtain ⟨t1, t2⟩ := ts_no (d := 59) hP (fun z => w3 z.2)
          rw [if_neg (by rw [t1]; exact Bool.false_ne_true), if_neg w3, t1]
          exact ⟨hP.2.2.1, hP.2.2.2.1⟩
    · rw [if_neg w, if_neg w]
      exact ⟨hP.2.2.1, hP.2.2.2.1⟩
/-- what reading leaves alone in the reference -/
theorem digR_fr (f k : Nat → Int32) (m : Int32) {j : Nat} (hj : j < 9) : (digR f k m).2 j = k j := by
  unfold digR
  split
  · rfl
  · split
    · show upd (upd k 10 _) 9 _ j = _
      rw [upd_ne _ _ (by omega), upd_ne _ _ (by omega)]
    · rfl
theorem takesR_fr (f k : Nat → Int32) (x : Int32) {j : Nat} (hj : j < 9) : (takesR f k x).2 j = k j := by
  unfold takesR
  split
  · rfl
  · split
    · exact upd_ne _ _ (by omega)
    · rfl
theorem prG_fr (e : PR) {j : Nat} (hj : j < 9) : prG e j = e.2 j := upd_ne _ _ (by omega)
theorem upE_fr (f : Nat → Int32) (m : Int32) {j : Nat} (hj : j < 9) : ∀ n i k, (upE f m n i k).2 j = k j := by
  intro n
  induction n with
  | zero => intro i k; rfl
  | succ n ih =>
    intro i k
    unfold upE
    split
    · rw [ih]
      show upd (upd k 10 _) 9 _ j = _
      rw [upd_ne _ _ (by omega), upd_ne _ _ (by omega)]
    · rfl
theorem upP_fr (f k : Nat → Int32) (m : Int32) {j : Nat} (hj : j < 9) : (upP f k m).2 j = k j := (upE_fr f m hj 61 0 _).trans (upd_ne _ _ (by omega))
theorem pairR_fr (f k : Nat → Int32) (m o : Int32) {j : Nat} (hj : j < 9) : (pairR f k m o).2 j = k j := by
  unfold pairR
  split
  · show upd (digR f (prG (digR f k m)) o).2 13 _ j = _
    rw [upd_ne _ _ (by omega), digR_fr _ _ _ hj, prG_fr _ hj, digR_fr _ _ _ hj]
  · show upd (prG (digR f k m)) 13 _ j = _
    rw [upd_ne _ _ (by omega), prG_fr _ hj, digR_fr _ _ _ hj]
theorem ptG_fr (f k : Nat → Int32) {j : Nat} (hj : j < 9) : (ptG f k).2 j = k j := by
  unfold ptG
  split
  · split
    · show upd (digR f _ 4).2 13 _ j = _
      rw [upd_ne _ _ (by omega), digR_fr _ _ _ hj, takesR_fr _ _ _ hj, prG_fr _ hj, upP_fr _ _ _ hj]
    · show upd (takesR f _ 61).2 13 _ j = _
      rw [upd_ne _ _ (by omega), takesR_fr _ _ _ hj, prG_fr _ hj, upP_fr _ _ _ hj]
  · show upd (prG (upP f k 23)) 13 _ j = _
    rw [upd_ne _ _ (by omega), prG_fr _ hj, upP_fr _ _ _ hj]
theorem partR_fr (f k : Nat → Int32) {j : Nat} (hj : j < 9) : (partR f k).2 j = k j := by
  have h1 : g1R f k j = k j := by
    unfold g1R
    rw [upd_ne _ _ (by omega), upd_ne _ _ (by omega)]
  unfold partR
  split
  · rfl
  · unfold partS
    split
    · show upd (upd (g1R f k) 12 _) 9 _ j = _
      rw [upd_ne _ _ (by omega), upd_ne _ _ (by omega), h1]
    · split
      · exact (prG_fr _ hj).trans ((upP_fr _ _ _ hj).trans h1)
      · split
        · exact (pairR_fr _ _ _ _ hj).trans h1
        · split
          · exact (pairR_fr _ _ _ _ hj).trans h1
          · split
            · exact (ptG_fr _ _ hj).trans h1
            · split
              · exact (pairR_fr _ _ _ _ hj).trans h1
              · split
                · exact (prG_fr _ hj).trans ((digR_fr _ _ _ hj).trans h1)
                · exact (upd_ne _ _ (by omega)).trans h1
theorem faE_fr (f : Nat → Int32) {j : Nat} (hj : j < 9) : ∀ n k, (faE f n k).2 j = k j := by
  intro n
  induction n with
  | zero => intro k; rfl
  | succ n ih =>
    intro k
    unfold faE
    split
    · split
      · rw [ih, takesR_fr _ _ _ hj, partR_fr _ _ hj]
      · exact (takesR_fr _ _ _ hj).trans (partR_fr _ _ hj)
    · exact partR_fr _ _ hj
theorem fa_is {f : Nat → Int32} {L : Nat} : ∀ n k g a, PD f f g k a L → L < a + 2 * n → (faE f n k).1 = fvN f L n a := by
  intro n
  induction n with
  | zero => intro k g a h h2; exact absurd h2 (by have := h.1; omega)
  | succ n ih =>
    intro k g a h h2
    obtain ⟨e1, e2, hP, hle, hok⟩ := part_is h
    have hL := hP.2.1
    have hb := hP.1
    unfold faE fvN
    rw [e2]
    by_cases w : okP f L a = true
    · rw [if_pos w, if_pos w]
      have hab := (hok w).1
      by_cases w2 : nxP f L a = L
      · obtain ⟨t1, t2⟩ := ts_no (d := 59) hP (fun z => by omega)
        rw [if_pos w2, t2, if_neg Bool.false_ne_true]
        show (if (partR f k).2 9 < (partR f k).2 8 then _ else _) = _
        rw [hP.2.2.2.2.1, hP.2.2.2.2.2.1, if_neg (nI_nlt (by omega) (by omega))]
      · rw [if_neg w2]
        by_cases w3 : f (nxP f L a) = 59
        · obtain ⟨t1, t2⟩ := ts_ok hP (by omega) w3
          rw [if_pos (by rw [t2]), if_pos w3, t2]
          exact ih _ (upd (tpF f g).2 1 (nI (nxP f L a + 1))) _ (PD_of hP (by omega) rfl rfl rfl rfl) (by omega)
        · obtain ⟨t1, t2⟩ := ts_no (d := 59) hP (fun z => w3 z.2)
          rw [if_neg w3, t2, if_neg Bool.false_ne_true]
          show (if (partR f k).2 9 < (partR f k).2 8 then _ else _) = _
          rw [hP.2.2.2.2.1, hP.2.2.2.2.2.1, if_pos (nI_lt (by omega) (by omega))]
    · rw [if_neg w, if_neg w]
      exact hP.2.2.2.2.1
theorem fault_eq {F f g k : Nat → Int32} {L : Nat} (h : PD F f g k 0 L) : (ffF F 60 g).1 = (faE f 61 k).1 := by
  have hL := h.2.1
  rw [(ff_is 60 g k 0 h (by omega)).1, fa_is 61 k (gcN 0 L) 0 (PD_gc h) (by omega)]
  exact fv_fuel f hL 60 61 0 (by omega) (by omega) (by omega)
/-- the places at which the parts begin -/
def posA (f : Nat → Int32) (L a : Nat) : Nat → Nat
  | 0 => a
  | i + 1 => nxP f L (posA f L a i) + 1
theorem posA_s (f : Nat → Int32) (L a : Nat) : ∀ i, posA f L (nxP f L a + 1) i = posA f L a (i + 1) := by
  intro i
  induction i with
  | zero => rfl
  | succ i ih =>
    show nxP f L (posA f L (nxP f L a + 1) i) + 1 = _
    rw [ih]; rfl
theorem fv_ok (f : Nat → Int32) {L : Nat} (hL : L ≤ 60) : ∀ n a, a ≤ L → L < a + 2 * n → fvN f L n a = -1 → ∃ N, 1 ≤ N ∧ N ≤ n ∧ (∀ i, i < N → okP f L (posA f L a i) = true ∧ posA f L a i ≤ L) ∧ (∀ i, i + 1 < N → nxP f L (posA f L a i) < L ∧ f (nxP f L (posA f L a i)) = 59) ∧ nxP f L (posA f L a (N - 1)) = L := by
  intro n
  induction n with
  | zero => intro a h1 h2; exact absurd h2 (by omega)
  | succ n ih =>
    intro a h1 h2 h3
    have hx := nx_le f h1 hL
    unfold fvN at h3
    by_cases w : okP f L a = true
    · rw [if_pos w] at h3
      have hx2 := hx.2 w
      by_cases w2 : nxP f L a = L
      · exact ⟨1, by omega, by omega, fun i hi => by rw [show i = 0 by omega]; exact ⟨w, h1⟩, fun i hi => absurd hi (by omega), w2⟩
      · rw [if_neg w2] at h3
        by_cases w3 : f (nxP f L a) = 59
        · rw [if_pos w3] at h3
          obtain ⟨N, n1, n2, n3, n4, n5⟩ := ih (nxP f L a + 1) (by have := hx.1; omega) (by omega) h3
          refine ⟨N + 1, by omega, by omega, fun i hi => ?_, fun i hi => ?_, ?_⟩
          · by_cases q : i = 0
            · rw [q]; exact ⟨w, h1⟩
            · have := n3 (i - 1) (by omega)
              rw [posA_s, show i - 1 + 1 = i by omega] at this
              exact this
          · by_cases q : i = 0
            · rw [q]; exact ⟨by show nxP f L a < L; have := hx.1; omega, w3⟩
            · have := n4 (i - 1) (by omega)
              rw [posA_s, show i - 1 + 1 = i by omega] at this
              exact this
          · rw [posA_s, show N - 1 + 1 = N by omega] at n5
            rw [show N + 1 - 1 = N by omega]; exact n5
        · rw [if_neg w3] at h3
          exact absurd h3 (nI_ne1 (by have := hx.1; omega))
    · rw [if_neg w] at h3
      exact absurd h3 (nI_ne1 (by have := hx.1; omega))
