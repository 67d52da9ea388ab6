theorem Rel_chG {M N : Mm} {r c : Nat} {f g : Nat → Int32} (hc : c < 8) (hN : ∀ x, x ≠ chP r c → N x = M x) (h0 : N (chP r c) 0 = g (0 + c)) (h1 : N (chP r c) 1 = g (8 + c)) (h2 : N (chP r c) 2 = g (16 + c)) (h3 : N (chP r c) 3 = g (24 + c)) (h4 : N (chP r c) 4 = M (chP r c) 4) (h5 : N (chP r c) 5 = M (chP r c) 5) (hg : ∀ j, j ≠ 0 + c → j ≠ 8 + c → j ≠ 16 + c → j ≠ 24 + c → g j = f j) (ha : ∃ a b, 2 ≤ a ∧ a ≤ 12 ∧ b ≤ 11 ∧ g (16 + c) = nI a ∧ g (24 + c) = nI b) (h : Rel M r f) : Rel N r g := by
  obtain ⟨t, p, n, hv, ⟨hC, hR, hS, hO, hG, hK, hH, hQ⟩, ⟨z1, z2, z3, z4, z5⟩⟩ := h
  have ht := hv.1
  have hn := hv.2.2.2.2.2.1
  have o : ∀ j, 32 ≤ j → g j = f j := fun j hj => hg j (by omega) (by omega) (by omega) (by omega)
  refine ⟨t, p, n, ?_, ⟨?_, rlR_of (fun d hd => hN _ (by (try simp only [chP, obP, noP] at *); omega)) (fun j hj => o j (by omega)) hR, rlS_of (by omega) (fun d hd => hN _ (by (try simp only [chP, obP, noP] at *); omega)) (fun j hj => o j (by omega)) hS, rlO_of (fun d hd => hN _ (by (try simp only [chP, obP, noP] at *); omega)) (fun j hj => o j (by omega)) hO, rlG_of (hN _ (by (try simp only [chP, obP, noP] at *); omega)) (fun j hj => o j (by omega)) hG, rlK_of (by omega) (hN _ (by (try simp only [chP, obP, noP] at *); omega)) (fun j hj => o j (by omega)) hK, rlH_of (hN _ (by (try simp only [chP, obP, noP] at *); omega)) (fun j hj => o j (by omega)) hH, rlN_of hn (fun d hd => hN _ (by (try simp only [chP, obP, noP] at *); omega)) (fun j hj => o j (by omega)) hQ⟩, ⟨by rw [o 71 (by omega)]; exact z1, fun d hd => ?_, fun d hd j q1 q2 => by rw [o _ (by omega)]; exact z3 d hd j q1 q2, fun e he => by rw [o _ (by omega)]; exact z4 e he, fun d hd => by rw [o _ (by omega)]; exact z5 d hd⟩⟩
  · obtain ⟨a1, a2, a3, a4, a5, a6, a7, a8, a9⟩ := hv
    refine ⟨a1, (o 74 (by omega)).trans a2, a3, a4, (o 72 (by omega)).trans a5, a6, (o 75 (by omega)).trans a7, fun d hd => ?_, fun k hk => by rw [o _ (by omega)]; exact a9 k hk⟩
    by_cases q : d = c
    · obtain ⟨a, b, w1, w2, w3, w4, -⟩ := ha
      rw [q, w4]; exact nI_ne0 (by omega) (by omega)
    · rw [hg _ (by omega) (by omega) (by omega) (by omega)]; exact a8 d hd
  · intro d hd
    obtain ⟨c0, c1, c2, c3, c4, c5⟩ := hC d hd
    by_cases q : d = c
    · subst q
      rw [h0, h1, h2, h3, h4, h5, o (76 + d) (by omega), o (84 + d) (by omega)]
      exact ⟨rfl, rfl, rfl, rfl, c4, c5⟩
    · rw [hN _ (by (try simp only [chP, obP, noP] at *); omega), o (76 + d) (by omega), o (84 + d) (by omega), hg (0 + d) (by omega) (by omega) (by omega) (by omega), hg (8 + d) (by omega) (by omega) (by omega) (by omega), hg (16 + d) (by omega) (by omega) (by omega) (by omega), hg (24 + d) (by omega) (by omega) (by omega) (by omega)]
      exact ⟨c0, c1, c2, c3, c4, c5⟩
  · by_cases q : d = c
    · rw [q]; exact ha
    · rw [hg (16 + d) (by omega) (by omega) (by omega) (by omega), hg (24 + d) (by omega) (by omega) (by omega) (by omega)]; exact z2 d hd
theorem Rel_turn {M : Mm} {r c : Nat} {f : Nat → Int32} (hc : c < 8) (h : Rel M r f) : ∃ a b, 2 ≤ a ∧ a ≤ 12 ∧ b ≤ 11 ∧ f (16 + c) = nI a ∧ f (24 + c) = nI b := by
  obtain ⟨t, p, n, hv, -, z⟩ := h
  exact z.2.1 c hc
theorem Rel_chm {M : Mm} {r c : Nat} {f : Nat → Int32} {y z t b : Int32} (hc : c < 8) (ht : 2 ≤ t ∧ t ≤ 12) (hb : 0 ≤ b ∧ b ≤ 11) (h : Rel M r f) : Rel (va_up M (chP r c) (upd (upd (upd (upd (M (chP r c)) 0 y) 1 z) 2 t) 3 b)) r (upd (upd (upd (upd f (0 + c) y) (8 + c) z) (16 + c) t) (24 + c) b) := by
  have e : va_up M (chP r c) (upd (upd (upd (upd (M (chP r c)) 0 y) 1 z) 2 t) 3 b) (chP r c) = upd (upd (upd (upd (M (chP r c)) 0 y) 1 z) 2 t) 3 b := va_up_self _ _ _
  refine Rel_chG hc (fun x hx => va_up_ne _ _ hx) ?_ ?_ ?_ ?_ (by rw [e]; rfl) (by rw [e]; rfl) (fun j h1 h2 h3 h4 => by rw [upd_ne _ _ h4, upd_ne _ _ h3, upd_ne _ _ h2, upd_ne _ _ h1]) ?_ h
  · rw [e, upd_ne _ _ (by omega), upd_ne _ _ (by omega), upd_ne _ _ (by omega), upd_at, upd_ne _ _ (by omega), upd_ne _ _ (by omega), upd_ne _ _ (by omega), upd_at]
  · rw [e, upd_ne _ _ (by omega), upd_ne _ _ (by omega), upd_at, upd_ne _ _ (by omega), upd_ne _ _ (by omega), upd_at]
  · rw [e, upd_ne _ _ (by omega), upd_at, upd_ne _ _ (by omega), upd_at]
  · rw [e, upd_at, upd_at]
  · obtain ⟨a, ha, ea⟩ := ofk (n := 12) (by decide) ⟨Int32.le_trans (by decide) ht.1, ht.2⟩
    obtain ⟨g, hg, eg⟩ := ofk (n := 11) (by decide) hb
    have ha2 : 2 ≤ a := (nI_leI (a := 2) (b := a) (by omega) (by omega)).mp (by rw [← ea]; exact ht.1)
    exact ⟨a, g, ha2, ha, hg, by rw [upd_ne _ _ (by omega), upd_at]; exact ea, by rw [upd_at]; exact eg⟩
theorem Rel_fire {M : Mm} {r c : Nat} {f : Nat → Int32} {y : Int32} (hc : c < 8) (h : Rel M r f) : Rel (va_up M (chP r c) (upd (M (chP r c)) 0 y)) r (upd f (0 + c) y) := by
  have e : va_up M (chP r c) (upd (M (chP r c)) 0 y) (chP r c) = upd (M (chP r c)) 0 y := va_up_self _ _ _
  have hC : M (chP r c) 1 = f (8 + c) ∧ M (chP r c) 2 = f (16 + c) ∧ M (chP r c) 3 = f (24 + c) := by
    obtain ⟨t, p, n, hv, hh, z⟩ := h
    obtain ⟨-, c1, c2, c3, -, -⟩ := hh.1 c hc
    exact ⟨c1, c2, c3⟩
  have ht := Rel_turn hc h
  refine Rel_chG hc (fun x hx => va_up_ne _ _ hx) (by rw [e, upd_at, upd_at]) ?_ ?_ ?_ (by rw [e]; rfl) (by rw [e]; rfl) (fun j h1 h2 h3 h4 => upd_ne _ _ h1) ?_ h
  · rw [e, upd_ne _ _ (by omega), upd_ne _ _ (by omega)]; exact hC.1
  · rw [e, upd_ne _ _ (by omega), upd_ne _ _ (by omega)]; exact hC.2.1
  · rw [e, upd_ne _ _ (by omega), upd_ne _ _ (by omega)]; exact hC.2.2
  · rw [upd_ne _ _ (by omega), upd_ne _ _ (by omega)]; exact ht
theorem Rel_damp {M : Mm} {r c : Nat} {f : Nat → Int32} {y : Int32} (hc : c < 8) (h : Rel M r f) : Rel (va_up M (chP r c) (upd (M (chP r c)) 1 y)) r (upd f (8 + c) y) := by
  have e : va_up M (chP r c) (upd (M (chP r c)) 1 y) (chP r c) = upd (M (chP r c)) 1 y := va_up_self _ _ _
  have hC : M (chP r c) 0 = f (0 + c) ∧ M (chP r c) 2 = f (16 + c) ∧ M (chP r c) 3 = f (24 + c) := by
    obtain ⟨t, p, n, hv, hh, z⟩ := h
    obtain ⟨c0, -, c2, c3, -, -⟩ := hh.1 c hc
    exact ⟨c0, c2, c3⟩
  have ht := Rel_turn hc h
  refine Rel_chG hc (fun x hx => va_up_ne _ _ hx) ?_ (by rw [e, upd_at, upd_at]) ?_ ?_ (by rw [e]; rfl) (by rw [e]; rfl) (fun j h1 h2 h3 h4 => upd_ne _ _ h2) ?_ h
  · rw [e, upd_ne _ _ (by omega), upd_ne _ _ (by omega)]; exact hC.1
  · rw [e, upd_ne _ _ (by omega), upd_ne _ _ (by omega)]; exact hC.2.1
  · rw [e, upd_ne _ _ (by omega), upd_ne _ _ (by omega)]; exact hC.2.2
  · rw [upd_ne _ _ (by omega), upd_ne _ _ (by omega)]; exact ht
theorem Rel_grey {M : Mm} {r c : Nat} {f : Nat → Int32} {y : Int32} (hc : c < 24) (h : Rel M r f) : Rel (va_up M (r + 4) (cgF (M (r + 4)) (nI c) y)) r (upd f (32 + c) y) := by
  obtain ⟨t, p, n, hv, ⟨hC, hR, hS, hO, hG, hK, hH, hQ⟩, z⟩ := h
  have ht := hv.1
  have hn := hv.2.2.2.2.2.1
  have o : ∀ j, j ≠ 32 + c → upd f (32 + c) y j = f j := fun j hj => upd_ne _ _ hj
  have e : ∀ x, x ≠ r + 4 → va_up M (r + 4) (cgF (M (r + 4)) (nI c) y) x = M x := fun x hx => va_up_ne _ _ hx
  refine ⟨t, p, n, RV_of (fun j hj => o j (by omega)) hv, ⟨rlC_of (fun d hd => e _ (by (try simp only [chP, obP, noP] at *); omega)) (fun j hj => o j (by omega)) hC, rlR_of (fun d hd => e _ (by (try simp only [chP, obP, noP] at *); omega)) (fun j hj => o j (by omega)) hR, rlS_of (by omega) (fun d hd => e _ (by (try simp only [chP, obP, noP] at *); omega)) (fun j hj => o j (by omega)) hS, rlO_of (fun d hd => e _ (by (try simp only [chP, obP, noP] at *); omega)) (fun j hj => o j (by omega)) hO, ?_, rlK_of (by omega) (e _ (by (try simp only [chP, obP, noP] at *); omega)) (fun j hj => o j (by omega)) hK, rlH_of (e _ (by (try simp only [chP, obP, noP] at *); omega)) (fun j hj => o j (by omega)) hH, rlN_of hn (fun d hd => e _ (by (try simp only [chP, obP, noP] at *); omega)) (fun j hj => o j (by omega)) hQ⟩, RZ_of hn (fun j hj => o j (by omega)) z⟩
  intro k hk
  rw [va_up_self]
  unfold cgF
  rw [if_neg (nI_pos (by omega)), if_neg (show ¬ 24 ≤ nI c from nI_ge (a := c) (b := 24) (by omega) (by omega)), nI_clamp (by omega)]
  by_cases q : k = c
  · subst q; rw [upd_at, upd_at]
  · rw [upd_ne _ _ q, o _ (by omega)]; exact hG k hk
theorem Rel_watch {M : Mm} {r k : Nat} {f : Nat → Int32} {y : Int32} (hk : k < 3) (hy : y = -1 ∨ 0 ≤ y ∧ y ≤ 7) (h : Rel M r f) : Rel (va_up M (obP r k) (upd (M (obP r k)) 0 y)) r (upd f (62 + k) y) := by
  obtain ⟨t, p, n, hv, ⟨hC, hR, hS, hO, hG, hK, hH, hQ⟩, z⟩ := h
  have ht := hv.1
  have hn := hv.2.2.2.2.2.1
  have o : ∀ j, j ≠ 62 + k → upd f (62 + k) y j = f j := fun j hj => upd_ne _ _ hj
  have e : ∀ x, x ≠ obP r k → va_up M (obP r k) (upd (M (obP r k)) 0 y) x = M x := fun x hx => va_up_ne _ _ hx
  refine ⟨t, p, n, ?_, ⟨rlC_of (fun d hd => e _ (by (try simp only [chP, obP, noP] at *); omega)) (fun j hj => o j (by omega)) hC, rlR_of (fun d hd => e _ (by (try simp only [chP, obP, noP] at *); omega)) (fun j hj => o j (by omega)) hR, rlS_of (by omega) (fun d hd => e _ (by (try simp only [chP, obP, noP] at *); omega)) (fun j hj => o j (by omega)) hS, ?_, rlG_of (e _ (by (try simp only [chP, obP, noP] at *); omega)) (fun j hj => o j (by omega)) hG, rlK_of (by omega) (e _ (by (try simp only [chP, obP, noP] at *); omega)) (fun j hj => o j (by omega)) hK, rlH_of (e _ (by (try simp only [chP, obP, noP] at *); omega)) (fun j hj => o j (by omega)) hH, rlN_of hn (fun d hd => e _ (by (try simp only [chP, obP, noP] at *); omega)) (fun j hj => o j (by omega)) hQ⟩, RZ_of hn (fun j hj => o j (by omega)) z⟩
  · obtain ⟨a1, a2, a3, a4, a5, a6, a7, a8, a9⟩ := hv
    refine ⟨a1, (o 74 (by omega)).trans a2, a3, a4, (o 72 (by omega)).trans a5, a6, (o 75 (by omega)).trans a7, fun d hd => by rw [o _ (by omega)]; exact a8 d hd, fun d hd => ?_⟩
    by_cases q : d = k
    · rw [q, upd_at]
      rcases hy with hy | hy
      · exact Or.inl hy
      · obtain ⟨c, hc, ec⟩ := ofk (n := 7) (by decide) hy
        exact Or.inr ⟨c, by omega, ec⟩
    · rw [o _ (by omega)]; exact a9 d hd
  · intro d hd
    obtain ⟨o0, o1, o2, o3, o4⟩ := hO d hd
    by_cases q : d = k
    · subst q
      rw [va_up_self, upd_at, o (56 + d) (by omega), o (59 + d) (by omega), o (65 + d) (by omega), o (68 + d) (by omega)]
      exact ⟨(upd_at _ _ _).symm, o1, o2, o3, o4⟩
    · rw [e _ (by (try simp only [chP, obP, noP] at *); omega), o (62 + d) (by omega), o (56 + d) (by omega), o (59 + d) (by omega), o (65 + d) (by omega), o (68 + d) (by omega)]
      exact ⟨o0, o1, o2, o3, o4⟩
theorem Rel_bias {M : Mm} {r k : Nat} {f : Nat → Int32} {y : Int32} (hk : k < 3) (h : Rel M r f) : Rel (va_up M (obP r k) (upd (M (obP r k)) 1 y)) r (upd f (56 + k) y) := by
  obtain ⟨t, p, n, hv, ⟨hC, hR, hS, hO, hG, hK, hH, hQ⟩, z⟩ := h
  have ht := hv.1
  have hn := hv.2.2.2.2.2.1
  have o : ∀ j, j ≠ 56 + k → upd f (56 + k) y j = f j := fun j hj => upd_ne _ _ hj
  have e : ∀ x, x ≠ obP r k → va_up M (obP r k) (upd (M (obP r k)) 1 y) x = M x := fun x hx => va_up_ne _ _ hx
  refine ⟨t, p, n, RV_of (fun j hj => o j (by omega)) hv, ⟨rlC_of (fun d hd => e _ (by (try simp only [chP, obP, noP] at *); omega)) (fun j hj => o j (by omega)) hC, rlR_of (fun d hd => e _ (by (try simp only [chP, obP, noP] at *); omega)) (fun j hj => o j (by omega)) hR, rlS_of (by omega) (fun d hd => e _ (by (try simp only [chP, obP, noP] at *); omega)) (fun j hj => o j (by omega)) hS, ?_, rlG_of (e _ (by (try simp only [chP, obP, noP] at *); omega)) (fun j hj => o j (by omega)) hG, rlK_of (by omega) (e _ (by (try simp only [chP, obP, noP] at *); omega)) (fun j hj => o j (by omega)) hK, rlH_of (e _ (by (try simp only [chP, obP, noP] at *); omega)) (fun j hj => o j (by omega)) hH, rlN_of hn (fun d hd => e _ (by (try simp only [chP, obP, noP] at *); omega)) (fun j hj => o j (by omega)) hQ⟩, RZ_of hn (fun j hj => o j (by omega)) z⟩
  intro d hd
  obtain ⟨o0, o1, o2, o3, o4⟩ := hO d hd
  by_cases q : d = k
  · subst q
    rw [va_up_self, upd_at, o (62 + d) (by omega), o (59 + d) (by omega), o (65 + d) (by omega), o (68 + d) (by omega)]
    exact ⟨o0, (upd_at _ _ _).symm, o2, o3, o4⟩
  · rw [e _ (by (try simp only [chP, obP, noP] at *); omega), o (62 + d) (by omega), o (56 + d) (by omega), o (59 + d) (by omega), o (65 + d) (by omega), o (68 + d) (by omega)]
    exact ⟨o0, o1, o2, o3, o4⟩
theorem Rel_limp {M : Mm} {r : Nat} {f : Nat → Int32} {x y : Int32} (hx : 1 ≤ x ∧ x ≤ 5) (hy : 1 ≤ y ∧ y ≤ 8) (h : Rel M r f) : Rel (va_up M r (upd (upd (M r) 6 x) 7 y)) r (upd (upd f 71 x) 72 y) := by
  obtain ⟨t, p, n, hv, ⟨hC, hR, hS, hO, hG, hK, hH, hQ⟩, ⟨z1, z2, z3, z4, z5⟩⟩ := h
  have ht := hv.1
  have hn := hv.2.2.2.2.2.1
  obtain ⟨L, hL1, hL5, rfl⟩ := of_rng (n := 5) (by decide) hx
  obtain ⟨q, hq1, hq8, rfl⟩ := of_rng (n := 8) (by decide) hy
  have o : ∀ j, j ≠ 71 → j ≠ 72 → upd (upd f 71 (nI L)) 72 (nI q) j = f j := fun j h1 h2 => (upd_ne _ _ h2).trans (upd_ne _ _ h1)
  have o71 : upd (upd f 71 (nI L)) 72 (nI q) 71 = nI L := by rw [upd_ne _ _ (by omega), upd_at]
  have o72 : upd (upd f 71 (nI L)) 72 (nI q) 72 = nI q := upd_at _ _ _
  have e : ∀ x, x ≠ r → va_up M r (upd (upd (M r) 6 (nI L)) 7 (nI q)) x = M x := fun x hx => va_up_ne _ _ hx
  obtain ⟨a1, a2, a3, a4, a5, a6, a7, a8, a9⟩ := hv
  refine ⟨t, q, n, ⟨a1, (o 74 (by omega) (by omega)).trans a2, hq1, hq8, o72, a6, (o 75 (by omega) (by omega)).trans a7, fun d hd => by rw [o _ (by omega) (by omega)]; exact a8 d hd, fun d hd => by rw [o _ (by omega) (by omega)]; exact a9 d hd⟩, ⟨rlC_of (fun d hd => e _ (by (try simp only [chP, obP, noP] at *); omega)) (fun j hj => o j (by omega) (by omega)) hC, rlR_of (fun d hd => e _ (by (try simp only [chP, obP, noP] at *); omega)) (fun j hj => o j (by omega) (by omega)) hR, rlS_of (by omega) (fun d hd => e _ (by (try simp only [chP, obP, noP] at *); omega)) (fun j hj => o j (by omega) (by omega)) hS, rlO_of (fun d hd => e _ (by (try simp only [chP, obP, noP] at *); omega)) (fun j hj => o j (by omega) (by omega)) hO, rlG_of (e _ (by (try simp only [chP, obP, noP] at *); omega)) (fun j hj => o j (by omega) (by omega)) hG, rlK_of (by omega) (e _ (by (try simp only [chP, obP, noP] at *); omega)) (fun j hj => o j (by omega) (by omega)) hK, ?_, rlN_of hn (fun d hd => e _ (by (try simp only [chP, obP, noP] at *); omega)) (fun j hj => o j (by omega) (by omega)) hQ⟩, ⟨⟨L, hL1, hL5, o71⟩, fun d hd => by rw [o _ (by omega) (by omega), o _ (by omega) (by omega)]; exact z2 d hd, fun d hd j q1 q2 => by rw [o _ (by omega) (by omega)]; exact z3 d hd j q1 q2, fun i hi => by rw [o _ (by omega) (by omega)]; exact z4 i hi, fun d hd => by rw [o _ (by omega) (by omega)]; exact z5 d hd⟩⟩
  obtain ⟨h5, h6, h7, h8, h9⟩ := hH
  unfold rlH
  rw [va_up_self, o71, o72, o 73 (by omega) (by omega), o 74 (by omega) (by omega), o 75 (by omega) (by omega)]
  exact ⟨h5, rfl, rfl, h8, h9⟩
/-- an appeal -/
theorem Rel_appeal {M : Mm} {r e c n : Nat} {f : Nat → Int32} (hn9 : f 75 = nI n) (hn20 : n ≤ 20) (he : e < n) (hc : c < 8) (h0 : f (132 + e) = 0) (h : Rel M r f) : Rel (deF M r (noP r e) c) r (daR f e c) ∧ (if deF M r (noP r e) c (noP r e) 5 = 0 then (1 : Int32) else 0) = daB f e := by
  obtain ⟨t, p, m, hv, ⟨hC, hR, hS, hO, hG, hK, hH, hQ⟩, z⟩ := h
  have ht := hv.1
  have hm := hv.2.2.2.2.2.1
  have hnm : m = n := nI_inj (by omega) (by omega) (hv.2.2.2.2.2.2.1.symm.trans hn9)
  subst hnm
  obtain ⟨q0, q1, q4, qw⟩ := hQ e he
  have q45 : M (noP r e) 4 = 0 ∧ M (noP r e) 5 = 1 := by
    rcases q4 with ⟨a, b, -⟩ | ⟨-, -, w⟩ | ⟨-, -, w⟩
    · exact ⟨a, b⟩
    · rw [h0] at w; exact absurd w (by decide)
    · rw [h0] at w; exact absurd w (by decide)
  have o : ∀ j, j ≠ 132 + e → j ≠ 84 + c → daR f e c j = f j := fun j h1 h2 => (upd_ne _ _ h2).trans (upd_ne _ _ h1)
  have d1 : daR f e c (132 + e) = if f (152 + e) < 2 then 2 else 1 := by unfold daR; rw [upd_ne _ _ (by omega), upd_at]
  have d2 : daR f e c (84 + c) = f (84 + c) + (if f (152 + e) < 2 then f (112 + e) else 0) := by unfold daR; rw [upd_at, upd_ne _ _ (by omega)]
  have hvz : RV (daR f e c) t p m ∧ RZ (daR f e c) t m := ⟨RV_of (fun j hj => o j (by omega) (by omega)) hv, RZ_of hm (fun j hj => o j (by omega) (by omega)) z⟩
  have hc5 := (hC c hc).2.2.2.2.2
  unfold daB
  generalize daR f e c = g at o d1 d2 hvz ⊢
  by_cases w : M (noP r e) 2 = 0 ∧ M (noP r e) 3 = 0
  · have hw : f (152 + e) = 2 := by rw [qw]; unfold whI; rw [if_pos w.1, if_pos w.2]
    have ed : deF M r (noP r e) c = va_up M (noP r e) (upd (M (noP r e)) 4 1) := if_pos w
    rw [ed]
    rw [hw, if_neg (by decide)] at d1 d2
    have eN : ∀ x, x ≠ noP r e → va_up M (noP r e) (upd (M (noP r e)) 4 1) x = M x := fun x hx => va_up_ne _ _ hx
    have e0 : va_up M (noP r e) (upd (M (noP r e)) 4 1) (noP r e) = upd (M (noP r e)) 4 1 := va_up_self _ _ _
    rw [e0, upd_ne _ _ (by omega), q45.2, hw, if_neg (by decide), if_neg (by decide)]
    refine ⟨⟨t, p, m, hvz.1, ⟨fun d hd => ?_, rlR_of (fun d hd => eN _ (by (try simp only [chP, obP, noP] at *); omega)) (fun j hj => o j (by omega) (by omega)) hR, rlS_of (by omega) (fun d hd => eN _ (by (try simp only [chP, obP, noP] at *); omega)) (fun j hj => o j (by omega) (by omega)) hS, rlO_of (fun d hd => eN _ (by (try simp only [chP, obP, noP] at *); omega)) (fun j hj => o j (by omega) (by omega)) hO, rlG_of (eN _ (by (try simp only [chP, obP, noP] at *); omega)) (fun j hj => o j (by omega) (by omega)) hG, rlK_of (by omega) (eN _ (by (try simp only [chP, obP, noP] at *); omega)) (fun j hj => o j (by omega) (by omega)) hK, rlH_of (eN _ (by (try simp only [chP, obP, noP] at *); omega)) (fun j hj => o j (by omega) (by omega)) hH, fun i hi => ?_⟩, hvz.2⟩, rfl⟩
    · obtain ⟨c0, c1, c2, c3, c4, c5⟩ := hC d hd
      rw [eN _ (by (try simp only [chP, obP, noP] at *); omega), o (0 + d) (by omega) (by omega), o (8 + d) (by omega) (by omega), o (16 + d) (by omega) (by omega), o (24 + d) (by omega) (by omega), o (76 + d) (by omega) (by omega)]
      refine ⟨c0, c1, c2, c3, c4, ?_⟩
      by_cases q : d = c
      · rw [q, d2, hc5]; exact (Int32.add_zero _).symm
      · rw [o (84 + d) (by omega) (by omega)]; exact c5
    · by_cases q : i = e
      · subst q
        rw [e0, d1, upd_at, upd_ne _ _ (by omega), upd_ne _ _ (by omega), upd_ne _ _ (by omega), upd_ne _ _ (by omega), upd_ne _ _ (by omega), o (92 + i) (by omega) (by omega), o (112 + i) (by omega) (by omega), o (152 + i) (by omega) (by omega)]
        exact ⟨q0, q1, Or.inr (Or.inl ⟨rfl, q45.2, rfl⟩), qw⟩
      · rw [eN _ (by (try simp only [chP, obP, noP] at *); omega), o (92 + i) (by omega) (by omega), o (112 + i) (by omega) (by omega), o (132 + i) (by omega) (by omega), o (152 + i) (by omega) (by omega)]
        exact hQ i hi
  · have hw : f (152 + e) < 2 := by
      rw [qw]; unfold whI
      by_cases w1 : M (noP r e) 2 = 0
      · rw [if_pos w1, if_neg (fun w2 => w ⟨w1, w2⟩)]; decide
      · rw [if_neg w1]; decide
    have ed : deF M r (noP r e) c = va_up (va_up M (noP r e) (upd (upd (M (noP r e)) 4 1) 5 0)) (chP r c) (upd (M (chP r c)) 5 (M (chP r c) 5 + M (noP r e) 1)) := if_neg w
    rw [ed]
    rw [if_pos hw] at d1 d2
    have eN : ∀ x, x ≠ noP r e → x ≠ chP r c → va_up (va_up M (noP r e) (upd (upd (M (noP r e)) 4 1) 5 0)) (chP r c) (upd (M (chP r c)) 5 (M (chP r c) 5 + M (noP r e) 1)) x = M x := fun x h1 h2 => (va_up_ne _ _ h2).trans (va_up_ne _ _ h1)
    have e0 : va_up (va_up M (noP r e) (upd (upd (M (noP r e)) 4 1) 5 0)) (chP r c) (upd (M (chP r c)) 5 (M (chP r c) 5 + M (noP r e) 1)) (noP r e) = upd (upd (M (noP r e)) 4 1) 5 0 := (va_up_ne _ _ (by (try simp only [chP, obP, noP] at *); omega)).trans (va_up_self _ _ _)
    have e1 : va_up (va_up M (noP r e) (upd (upd (M (noP r e)) 4 1) 5 0)) (chP r c) (upd (M (chP r c)) 5 (M (chP r c) 5 + M (noP r e) 1)) (chP r c) = upd (M (chP r c)) 5 (M (chP r c) 5 + M (noP r e) 1) := va_up_self _ _ _
    rw [e0, upd_at, if_pos rfl, if_pos hw]
    refine ⟨⟨t, p, m, hvz.1, ⟨fun d hd => ?_, rlR_of (fun d hd => eN _ (by (try simp only [chP, obP, noP] at *); omega) (by (try simp only [chP, obP, noP] at *); omega)) (fun j hj => o j (by omega) (by omega)) hR, rlS_of (by omega) (fun d hd => eN _ (by (try simp only [chP, obP, noP] at *); omega) (by (try simp only [chP, obP, noP] at *); omega)) (fun j hj => o j (by omega) (by omega)) hS, rlO_of (fun d hd => eN _ (by (try simp only [chP, obP, noP] at *); omega) (by (try simp only [chP, obP, noP] at *); omega)) (fun j hj => o j (by omega) (by omega)) hO, rlG_of (eN _ (by (try simp only [chP, obP, noP] at *); omega) (by (try simp only [chP, obP, noP] at *); omega)) (fun j hj => o j (by omega) (by omega)) hG, rlK_of (by omega) (eN _ (by (try simp only [chP, obP, noP] at *); omega) (by (try simp only [chP, obP, noP] at *); omega)) (fun j hj => o j (by omega) (by omega)) hK, rlH_of (eN _ (by (try simp only [chP, obP, noP] at *); omega) (by (try simp only [chP, obP, noP] at *); omega)) (fun j hj => o j (by omega) (by omega)) hH, fun i hi => ?_⟩, hvz.2⟩, rfl⟩
    · obtain ⟨c0, c1, c2, c3, c4, c5⟩ := hC d hd
      rw [o (0 + d) (by omega) (by omega), o (8 + d) (by omega) (by omega), o (16 + d) (by omega) (by omega), o (24 + d) (by omega) (by omega), o (76 + d) (by omega) (by omega)]
      by_cases q : d = c
      · subst q
        rw [e1, d2, ← hc5, ← q1]
        exact ⟨c0, c1, c2, c3, c4, rfl⟩
      · rw [eN _ (by (try simp only [chP, obP, noP] at *); omega) (by (try simp only [chP, obP, noP] at *); omega), o (84 + d) (by omega) (by omega)]
        exact ⟨c0, c1, c2, c3, c4, c5⟩
    · by_cases q : i = e
      · subst q
        rw [e0, d1, o (92 + i) (by omega) (by omega), o (112 + i) (by omega) (by omega), o (152 + i) (by omega) (by omega)]
        exact ⟨q0, q1, Or.inr (Or.inr ⟨rfl, rfl, rfl⟩), qw⟩
      · rw [eN _ (by (try simp only [chP, obP, noP] at *); omega) (by (try simp only [chP, obP, noP] at *); omega), o (92 + i) (by omega) (by omega), o (112 + i) (by omega) (by omega), o (132 + i) (by omega) (by omega), o (152 + i) (by omega) (by omega)]
        exact hQ i hi

theorem Rel_row {M : Mm} {r : Nat} {f g : Nat → Int32} (hf : ∀ j, j < 1804 → g j = f j) (h : Rel M r f) : Rel M r g := Rel_of (fun _ _ => rfl) hf h
theorem Rel_mem {M N : Mm} {r : Nat} {f : Nat → Int32} (hM : ∀ x, r ≤ x → x < r + 70 → N x = M x) (h : Rel M r f) : Rel N r f := Rel_of (fun x hx => hM _ (by omega) (by omega)) (fun _ _ => rfl) h
theorem roF_at {f : Nat → Int32} {j : Nat} (h : j < 5) : roF f j = f (j + 1) := if_pos h
theorem roF_5 (f : Nat → Int32) : roF f 5 = f 0 := rfl
theorem roF_inj {f : Nat → Int32} (hI : ∀ i j, i < 6 → j < 6 → (f i).toNatClampNeg = (f j).toNatClampNeg → i = j) : ∀ i j, i < 6 → j < 6 → (roF f i).toNatClampNeg = (roF f j).toNatClampNeg → i = j := by
  intro i j hi hj h
  by_cases q1 : i < 5
  · rw [roF_at q1] at h
    by_cases q2 : j < 5
    · rw [roF_at q2] at h
      have := hI _ _ (by omega) (by omega) h; omega
    · rw [show j = 5 by omega, roF_5] at h
      have := hI _ _ (by omega) (by omega) h; omega
  · rw [show i = 5 by omega, roF_5] at h
    by_cases q2 : j < 5
    · rw [roF_at q2] at h
      have := hI _ _ (by omega) (by omega) h; omega
    · omega
theorem n_IA : ¬ xI = xA := by decide +kernel
theorem n_AI : ¬ xA = xI := by decide +kernel
theorem n_IS : ¬ xI = xS := by decide +kernel
theorem n_SI : ¬ xS = xI := by decide +kernel
theorem n_AS : ¬ xA = xS := by decide +kernel
theorem n_SA : ¬ xS = xA := by decide +kernel
theorem atF_k (f : Nat → Int32) {t : Nat} (ht : t < 96) : atF f (nI t) = f t := by
  unfold atF
  rw [if_neg (nI_pos (by omega)), if_neg (show ¬ 96 ≤ nI t from nI_ge (a := t) (b := 96) (by omega) (by omega)), nI_clamp (by omega)]
theorem gyF_k (f : Nat → Int32) {t : Nat} (ht : t < 24) : gyF f (nI t) = f t := by
  unfold gyF
  rw [if_neg (nI_pos (by omega)), if_neg (show ¬ 24 ≤ nI t from nI_ge (a := t) (b := 24) (by omega) (by omega)), nI_clamp (by omega)]

