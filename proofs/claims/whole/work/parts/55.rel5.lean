
/-! what is to come, on both sides -/
theorem i_sub0 {x y : Int32} : x - y = 0 ↔ x = y := ⟨fun w => by
  have h := Int32.sub_add_cancel x y
  rw [w, Int32.zero_add] at h
  exact h.symm, fun w => by rw [w]; exact Int32.sub_self y⟩
theorem holdS_n (x : Int32) : ∃ w, w ≤ 5 ∧ holdS x = nI w := by
  unfold holdS
  by_cases h : x < 0
  · rw [if_pos h]; exact ⟨0, by omega, rfl⟩
  · rw [if_neg h]
    by_cases h2 : 5 < x
    · rw [if_pos h2]; exact ⟨5, by omega, rfl⟩
    · rw [if_neg h2]
      exact nI_of2 (n := 5) (M := 5) (by decide) h (Int32.not_lt.mp h2)
theorem shR_n (f : Nat → Int32) (c : Nat) (x : Int32) : ∃ w, w ≤ 5 ∧ shR f c x = nI w := by
  rw [shR_hold]
  by_cases h : x - f (24 + c) < 0
  · rw [if_pos h]; exact ⟨0, by omega, rfl⟩
  · rw [if_neg h]; exact holdS_n _
theorem sumF_n {F : Nat → Int32} (h : ∀ j, ∃ w, w ≤ 5 ∧ F j = nI w) (a : Nat) : ∀ n, ∃ w, w ≤ 5 * n ∧ sumF F a n = nI w := by
  intro n
  induction n with
  | zero => exact ⟨0, by omega, rfl⟩
  | succ n ih =>
    obtain ⟨w, hw, e⟩ := ih
    obtain ⟨u, hu, e2⟩ := h (a + n)
    unfold sumF
    rw [e, e2]
    exact ⟨w + u, by omega, nI_add w u⟩
theorem twS_at (M : Mm) (t b : Nat) : ∀ k i, i < k → twS M t b k i = sumF (fun j => shC M (chP 1 i) (nI j)) t (b + 1 - t) := by
  intro k
  induction k with
  | zero => intro i hi; exact absurd hi (by omega)
  | succ k ih =>
    intro i hi
    unfold twS
    by_cases q : i = k
    · rw [q]; exact upd_at _ _ _
    · rw [upd_ne _ _ q]; exact ih i (by omega)
theorem twR_at (M : Mm) (t b : Nat) : ∀ k i, i < k → twR M t b k i = sumF (fun j => shR (M 710) i (nI j)) t (b + 1 - t) := by
  intro k
  induction k with
  | zero => intro i hi; exact absurd hi (by omega)
  | succ k ih =>
    intro i hi
    unfold twR
    by_cases q : i = k
    · rw [q]; exact upd_at _ _ _
    · rw [upd_ne _ _ q]; exact ih i (by omega)
theorem tw_both {M N : Mm} {T n t b : Nat} (hb : b ≤ 95) (h : Rl M 1 (N 710) T n) (z : RZ (N 710) T n) : spF (twS M t b 8) 3 = (ptR (twR N t b 8) 3).1 ∧ (sbF (twS M t b 8) 256).1 = (ptR (twR N t b 8) 3).1 := by
  have hs := fun i => sumF_n (F := fun j => shR (N 710) i (nI j)) (fun j => shR_n _ i _) t (b + 1 - t)
  refine tw_eq (v := fun i => (sumF (fun j => shR (N 710) i (nI j)) t (b + 1 - t)).toNatClampNeg) (fun i hi => ?_) (fun i hi => ?_) (fun i hi => ?_)
  · obtain ⟨w, hw, e⟩ := hs i
    show (sumF _ _ _).toNatClampNeg < _
    rw [e, nI_clamp (by omega)]; omega
  · obtain ⟨w, hw, e⟩ := hs i
    rw [twS_at M t b 8 i hi, sumF_congr (g := fun j => shR (N 710) i (nI j)) t _ (fun j h1 h2 => Rl_sh h z hi (by omega))]
    show sumF _ _ _ = nI (sumF _ _ _).toNatClampNeg
    rw [e, nI_clamp (by omega)]
  · obtain ⟨w, hw, e⟩ := hs i
    rw [twR_at N t b 8 i hi]
    show sumF _ _ _ = nI (sumF _ _ _).toNatClampNeg
    rw [e, nI_clamp (by omega)]
/-- how notices come: from n in the row f to m in the row g -/
def Ev (f g : Nat → Int32) (n m : Nat) : Prop := n ≤ m ∧ m ≤ 20 ∧ (∀ e, e < n → g (92 + e) = f (92 + e)) ∧ ∀ c, c < 8 → ((∀ e, n ≤ e → e < m → ¬ g (92 + e) = nI c) ∧ g (76 + c) = f (76 + c)) ∨ ((∃ e, n ≤ e ∧ e < m ∧ g (92 + e) = nI c) ∧ ∃ a b, f (76 + c) = nI a ∧ g (76 + c) = nI b ∧ a < b ∧ b < 10000)
theorem Ev_same {f g : Nat → Int32} {n : Nat} (hn : n ≤ 20) (h : ∀ j, 76 ≤ j ∧ j < 84 ∨ 92 ≤ j ∧ j < 112 → g j = f j) : Ev f g n n :=
  ⟨Nat.le_refl _, hn, fun e he => h _ (by omega), fun c hc => Or.inl ⟨fun e h1 h2 => absurd h1 (by omega), h _ (by omega)⟩⟩
theorem Ev_trans {f g h : Nat → Int32} {n m k : Nat} (p : Ev f g n m) (q : Ev g h m k) : Ev f h n k := by
  obtain ⟨p1, p2, p3, p4⟩ := p
  obtain ⟨q1, q2, q3, q4⟩ := q
  refine ⟨by omega, q2, fun e he => (q3 e (by omega)).trans (p3 e he), fun c hc => ?_⟩
  rcases p4 c hc with ⟨a1, a2⟩ | ⟨⟨e, he1, he2, a1⟩, a, b, ea, eb, hab, hb⟩
  · rcases q4 c hc with ⟨b1, b2⟩ | ⟨⟨e, he1, he2, b1⟩, a, b, ea, eb, hab, hb⟩
    · refine Or.inl ⟨fun e h1 h2 => ?_, b2.trans a2⟩
      by_cases w : e < m
      · rw [q3 e w]; exact a1 e h1 w
      · exact b1 e (by omega) h2
    · exact Or.inr ⟨⟨e, by omega, he2, b1⟩, a, b, by rw [← a2]; exact ea, eb, hab, hb⟩
  · refine Or.inr ⟨⟨e, he1, by omega, (q3 e he2).trans a1⟩, ?_⟩
    rcases q4 c hc with ⟨-, b2⟩ | ⟨-, a', b', ea', eb', hab', hb'⟩
    · exact ⟨a, b, ea, b2.trans eb, hab, hb⟩
    · have := nI_inj (by omega) (by omega) (eb.symm.trans ea')
      exact ⟨a, b', ea, eb', by omega, hb'⟩
theorem Ev_gt {f : Nat → Int32} {t p n c T : Nat} (hn : n < 20) (hc : c < 8) (z : RZ f T n) : Ev f (gtR f t p n c) n (n + 1) := by
  refine ⟨by omega, by omega, fun e he => gt_o (by omega) (by omega) (by omega) (by omega) (by omega) (by omega), fun d hd => ?_⟩
  by_cases q : d = c
  · subst q
    obtain ⟨a, ha, ea⟩ := z.2.2.2.2 d hd
    obtain ⟨b, hb1, hb2, eb⟩ := gtS_n f d n
    refine Or.inr ⟨⟨n, by omega, by omega, gt_92 hn hd⟩, a, a + 10 * b, ea, ?_, by omega, by omega⟩
    rw [gt_76 hn hd, ea, eb, show (10 : Int32) * nI b = nI (10 * b) from pk_mul 10 b]; exact nI_add a (10 * b)
  · refine Or.inl ⟨fun e h1 h2 w => ?_, gt_o (by omega) (by omega) (by omega) (by omega) (by omega) (by omega)⟩
    rw [show e = n by omega, gt_92 hn hc] at w
    exact q (nI_inj (by omega) (by omega) w).symm
theorem Rl_gnE {M : Mm} {r t p n : Nat} {f : Nat → Int32} (hv : RV f t p n) (h : Rl M r f (t + 1) n) (z : RZ f (t + 1) n) : ∀ c, c ≤ 8 → ∃ n2, RV (gnI f t p c) t p n2 ∧ Rl (gnF M r t p c) r (gnI f t p c) (t + 1) n2 ∧ RZ (gnI f t p c) (t + 1) n2 ∧ Ev f (gnI f t p c) n n2 := by
  intro c
  induction c with
  | zero => intro _; exact ⟨n, hv, h, z, Ev_same hv.2.2.2.2.2.1 (fun _ _ => rfl)⟩
  | succ c ih =>
    intro hc
    obtain ⟨n2, hv2, h2, z2, e2⟩ := ih (by omega)
    show ∃ n3, RV (gnR (gnI f t p c) t p c) t p n3 ∧ Rl (gnS (gnF M r t p c) r t p c) r (gnR (gnI f t p c) t p c) (t + 1) n3 ∧ RZ (gnR (gnI f t p c) t p c) (t + 1) n3 ∧ Ev f (gnR (gnI f t p c) t p c) n n3
    rcases gn_both (c := c) (by omega) hv2 h2 with ⟨q1, q2⟩ | ⟨hn, hU, q1, q2⟩
    · rw [q1, q2]; exact ⟨n2, hv2, h2, z2, e2⟩
    · rw [q1, q2]; exact ⟨n2 + 1, gtR_RV hn hv2, Rl_gt hn (by omega) hv2 h2 z2 hU, RZ_gt hn (by omega) z2, Ev_trans e2 (Ev_gt hn (by omega) z2)⟩
theorem goR_o {f : Nat → Int32} {j : Nat} (h : j < 73 ∨ 75 ≤ j ∧ j < 172) : goR f j = f j := by
  unfold goR
  split
  · unfold fgR; rw [if_neg (by omega), upd_ne _ _ (by omega), upd_ne _ _ (by omega), upd_ne _ _ (by omega)]
  · exact upd_ne _ _ (by omega)
theorem Rl_tickE {M : Mm} {r t p n : Nat} {f : Nat → Int32} (hv : RV f t p n) (h : Rl M r f t n) (z : RZ f t n) : ∃ t2 n2, RV (tkR f t p) t2 p n2 ∧ Rl (ptF M r t p) r (tkR f t p) t2 n2 ∧ RZ (tkR f t p) t2 n2 ∧ Ev f (tkR f t p) n n2 := by
  have ht := hv.1
  have hn := hv.2.2.2.2.2.1
  have h1 := Rl_nd ht hn h z
  have z1 := RZ_le (Nat.le_succ t) (RZ_nd hn z)
  have v1 : RV (ndR f t 8) t p n := RV_nd hv
  have eg : ndR f t 8 (32 + t / 4) = f (32 + t / 4) := ndR_lo f t (by omega) 8
  have h2 := Rl_waI v1 h1 z1 (fun c hc => by rw [ndR_in f hc ht ht 8 (by omega), if_pos ⟨rfl, hc⟩]; exact (shR_congr hc (fun j hj => ndR_lo f t (by omega) 8) _).symm) 3 (Nat.le_refl _)
  have v2 : RV (waI (ndR f t 8) t 3) t p n := RV_wa (by omega) v1
  have h3 := Rl_tiI (by omega) hn h2.1 3 (Nat.le_refl _)
  have z3 := RZ_ti hn h2.2
  have v3 : RV (tiI (waI (ndR f t 8) t 3) 3) t p n := RV_ti (by omega) v2
  obtain ⟨n2, v4, h4, z4, e4⟩ := Rl_gnE v3 h3 z3 8 (Nat.le_refl _)
  obtain ⟨t2, v5, h5, z5⟩ := Rl_go v4 h4 z4
  have e3 : Ev f (tiI (waI (ndR f t 8) t 3) 3) n n := Ev_same hn (fun j hj => (tiI_lo _ (by omega) 3 (by omega)).trans ((waI_lo _ (by omega) 3 (by omega)).trans (ndR_lo f t (by omega) 8)))
  refine ⟨t2, n2, v5, ?_, z5, Ev_trans (Ev_trans e3 e4) (Ev_same v4.2.2.2.2.2.1 (fun j hj => goR_o (by omega)))⟩
  unfold ptF trG
  rw [gyF_gr h.2.2.2.2.1 ht]
  rw [eg] at h5
  exact h5
theorem Rl_itE {M : Mm} {r t p n : Nat} {f : Nat → Int32} (hv : RV f t p n) (h : Rl M r f t n) (z : RZ f t n) : ∀ i, ∃ t2 n2, RV (psR f i) t2 p n2 ∧ Rl (itF M r i) r (psR f i) t2 n2 ∧ RZ (psR f i) t2 n2 ∧ Ev f (psR f i) n n2 := by
  intro i
  induction i with
  | zero => exact ⟨t, n, hv, h, z, Ev_same hv.2.2.2.2.2.1 (fun _ _ => rfl)⟩
  | succ i ih =>
    obtain ⟨t2, n2, hv2, h2, z2, e2⟩ := ih
    obtain ⟨t3, n3, hv3, h3, z3, e3⟩ := Rl_tickE hv2 h2 z2
    refine ⟨t3, n3, ?_, ?_, ?_, ?_⟩
    · show RV (tkF (psR f i)) t3 p n3
      rw [tkF_is hv2]; exact hv3
    · show Rl (ptM (itF M r i) r) r (tkF (psR f i)) t3 n3
      rw [ptM_is hv2.1 hv2.2.2.2.1 (Rl_CI hv2 h2 z2), tkF_is hv2]; exact h3
    · show RZ (tkF (psR f i)) t3 n3
      rw [tkF_is hv2]; exact z3
    · show Ev f (tkF (psR f i)) n n3
      rw [tkF_is hv2]; exact Ev_trans e2 e3
/-- whether a chimney has a notice from some number on -/
theorem hnF_0 (f : Nat → Int32) (x : Int32) (m : Nat) : ∀ i, hnF f x m i = 0 ↔ ∀ j, j < i → ¬ f (92 + (m + j)) = x := by
  intro i
  induction i with
  | zero => exact ⟨fun _ j h => absurd h (by omega), fun _ => rfl⟩
  | succ i ih =>
    unfold hnF
    by_cases q : ¬ hnF f x m i = 0 ∨ f (92 + (m + i)) = x
    · rw [if_pos q]
      refine ⟨fun z => absurd z (by decide), fun z => ?_⟩
      rcases q with q | q
      · exact absurd (ih.mpr (fun j hj => z j (by omega))) q
      · exact absurd q (z i (by omega))
    · rw [if_neg q]
      refine ⟨fun _ j hj => ?_, fun _ => rfl⟩
      by_cases w : j = i
      · rw [w]; exact fun z => q (Or.inr z)
      · exact ih.mp (Decidable.not_not.mp (fun z => q (Or.inl z))) j (by omega)
theorem hs_iff {M : Mm} {r t p n c : Nat} {f : Nat → Int32} (hc : c < 8) (hv : RV f t p n) (h : Rl M r f t n) (z : RZ f t n) (j : Nat) : hsT f c n j = 0 ↔ itF M r j (chP r c) 4 ≤ itF M r 0 (chP r c) 4 := by
  obtain ⟨t2, n2, hv2, h2, z2, e⟩ := Rl_itE hv h z j
  have g1 : itF M r j (chP r c) 4 = psR f j (76 + c) := (h2.1 c hc).2.2.2.2.1
  have g0 : itF M r 0 (chP r c) 4 = f (76 + c) := (h.1 c hc).2.2.2.2.1
  obtain ⟨e1, e2, e3, e4⟩ := e
  unfold hsT
  rw [g1, g0, hv2.2.2.2.2.2.2.1, nI_clamp (by omega), hnF_0]
  rcases e4 c hc with ⟨a1, a2⟩ | ⟨⟨i, hi1, hi2, a1⟩, a, b, ea, eb, hab, hb⟩
  · rw [a2]
    exact ⟨fun _ => Int32.le_refl _, fun _ i hi => a1 (n + i) (by omega) (by omega)⟩
  · rw [ea, eb]
    refine ⟨fun w => absurd (by rw [show n + (i - n) = i by omega]; exact a1) (w (i - n) (by omega)), fun w => ?_⟩
    exact absurd ((nI_leI (by omega) (by omega)).mp w) (by omega)
theorem tn_eq {f : Nat → Int32} {G : Nat → Int32} {c n i k : Nat} {v : Int32} (K : ∀ j, hsT f c n j = 0 ↔ G j ≤ G 0) (hi : i ≤ 200) (h1 : ∀ j, j < i → G j ≤ G 0) (h2 : i = 200 ∧ G 200 ≤ G 0 ∧ v = -1 ∨ G 0 < G i ∧ v = nI i) (hk : k ≤ 200) (k1 : ∀ j, j < k → hsT f c n j = 0) (k2 : k = 200 ∨ ¬ hsT f c n k = 0) : v = if hsT f c n k = 0 then -1 else nI k := by
  rcases h2 with ⟨e, q, rfl⟩ | ⟨q, rfl⟩
  · rw [if_pos ((K k).mpr (by by_cases w : k = 200; (rw [w]; exact q); exact h1 k (by omega)))]
  · have hni : ¬ hsT f c n i = 0 := fun w => Int32.not_le.mpr q ((K i).mp w)
    have hki : k = i := by
      by_cases w1 : k < i
      · rcases k2 with k2 | k2
        · omega
        · exact absurd ((K k).mpr (h1 k w1)) k2
      · by_cases w2 : i < k
        · exact absurd (k1 i w2) hni
        · omega
    rw [hki, if_neg hni]
/-- another limit -/
theorem Rl_lim {M : Mm} {r t p n L : Nat} {f : Nat → Int32} (hL : 1 ≤ L) (hL5 : L ≤ 5) (hv : RV f t p n) (h : Rl M r f t n) (z : RZ f t n) : RV (upd f 71 (nI L)) t p n ∧ Rl (va_up M r (upd (M r) 6 (nI L))) r (upd f 71 (nI L)) t n ∧ RZ (upd f 71 (nI L)) t n := by
  have g : ∀ j, j ≠ 71 → upd f 71 (nI L) j = f j := fun j hj => upd_ne _ _ hj
  have e : ∀ x, x ≠ r → va_up M r (upd (M r) 6 (nI L)) x = M x := fun x hx => va_up_ne _ _ hx
  have ht := hv.1
  have hn := hv.2.2.2.2.2.1
  obtain ⟨hC, hR, hS, hO, hG, hK, hH, hN⟩ := h
  obtain ⟨z1, z2, z3, z4, z5⟩ := z
  refine ⟨RV_of (fun j hj => g j (by omega)) hv, ⟨rlC_of (fun c hc => e _ (by (try simp only [chP, obP, noP] at *); omega)) (fun j hj => g j (by omega)) hC, rlR_of (fun c hc => e _ (by (try simp only [chP, obP, noP] at *); omega)) (fun j hj => g j (by omega)) hR, rlS_of (by omega) (fun c hc => e _ (by (try simp only [chP, obP, noP] at *); omega)) (fun j hj => g j (by omega)) hS, rlO_of (fun c hc => e _ (by (try simp only [chP, obP, noP] at *); omega)) (fun j hj => g j (by omega)) hO, rlG_of (e _ (by (try simp only [chP, obP, noP] at *); omega)) (fun j hj => g j (by omega)) hG, rlK_of (by omega) (e _ (by (try simp only [chP, obP, noP] at *); omega)) (fun j hj => g j (by omega)) hK, ?_, rlN_of hn (fun c hc => e _ (by (try simp only [chP, obP, noP] at *); omega)) (fun j hj => g j (by omega)) hN⟩, ⟨⟨L, hL, hL5, upd_at _ _ _⟩, fun c hc => ?_, fun c hc j h1 h2 => ?_, fun i hi => ?_, fun c hc => ?_⟩⟩
  · obtain ⟨h5, h6, h7, h8, h9⟩ := hH
    unfold rlH
    rw [va_up_self, upd_at, g 75 (by omega), g 72 (by omega), g 73 (by omega), g 74 (by omega)]
    exact ⟨h5, rfl, h7, h8, h9⟩
  · rw [g (16 + c) (by omega), g (24 + c) (by omega)]; exact z2 c hc
  · rw [g _ (by omega)]; exact z3 c hc j h1 h2
  · rw [g (92 + i) (by omega)]; exact z4 i hi
  · rw [g (76 + c) (by omega)]; exact z5 c hc
/-- counts of notices do not fall -/
theorem cnt_mono {M : Mm} {r t p n : Nat} {f : Nat → Int32} (hv : RV f t p n) (h : Rl M r f t n) (z : RZ f t n) (s : Nat) : ∀ d, ∃ a b, n ≤ a ∧ a ≤ b ∧ b ≤ 20 ∧ itF M r s r 5 = nI a ∧ itF M r (s + d) r 5 = nI b := by
  intro d
  induction d with
  | zero =>
    obtain ⟨t2, n2, hv2, h2, z2, e2⟩ := Rl_itE hv h z s
    have q := h2.2.2.2.2.2.2.1.1.trans hv2.2.2.2.2.2.2.1
    exact ⟨n2, n2, e2.1, Nat.le_refl _, e2.2.1, q, q⟩
  | succ d ih =>
    obtain ⟨a, b, h1, h2, h3, e1, e2⟩ := ih
    obtain ⟨t2, n2, hv2, hh2, z2, -⟩ := Rl_itE hv h z (s + d)
    have q := hh2.2.2.2.2.2.2.1.1.trans hv2.2.2.2.2.2.2.1
    obtain ⟨t3, n3, hv3, h3', z3, e3⟩ := Rl_tickE hv2 hh2 z2
    have q3 : itF M r (s + (d + 1)) r 5 = nI n3 := by
      show ptM (itF M r (s + d)) r r 5 = nI n3
      rw [ptM_is hv2.1 hv2.2.2.2.1 (Rl_CI hv2 hh2 z2)]
      exact h3'.2.2.2.2.2.2.1.1.trans hv3.2.2.2.2.2.2.1
    have hb : b = n2 := nI_inj (by omega) (by have := e3.1; have := e3.2.1; omega) (e2.symm.trans q)
    exact ⟨a, n3, h1, by have := e3.1; omega, e3.2.1, e1, q3⟩
theorem Rl_cp {M : Mm} {r q t n : Nat} {f : Nat → Int32} (ht : t ≤ 96) (hn : n ≤ 20) (h : Rl M q f t n) : Rl (cpR M r q) r f t n := Rl_of ht hn (fun x hx => by rw [cpR_in (by omega), show r + x - r = x by omega]) (fun _ _ => rfl) h
theorem Rel_cp {M : Mm} {r q : Nat} {f : Nat → Int32} (h : Rel M q f) : Rel (cpR M r q) r f := Rel_of (fun x hx => by rw [cpR_in (by omega), show r + x - r = x by omega]) (fun _ _ => rfl) h
/-- under a limit, whether a notice comes -/
theorem nb_iff {M : Mm} {t p n L k : Nat} {f row : Nat → Int32} (hL : 1 ≤ L) (hL5 : L ≤ 5) (hv : RV f t p n) (h : Rl M 1 f t n) (z : RZ f t n) (hrow : ∀ j, j < 1804 → row j = f j) : (psR (upd row 71 (nI L)) k 75 - upd row 71 (nI L) 75 = 0 ↔ itF (mlS M L) 71 k 71 5 = mlS M L 71 5) ∧ ∀ s, s ≤ k → (mlS M L 71 5 < itF (mlS M L) 71 s 71 5 → ¬ itF (mlS M L) 71 k 71 5 = mlS M L 71 5) ∧ (¬ mlS M L 71 5 < itF (mlS M L) 71 s 71 5 → itF (mlS M L) 71 s 71 5 = mlS M L 71 5) := by
  have ht := hv.1
  have hn := hv.2.2.2.2.2.1
  have v1 : RV row t p n := RV_of (fun j hj => hrow j (by omega)) hv
  have h1 : Rl (cpR M 71 1) 71 row t n := Rl_of (by omega) hn (fun x hx => by rw [cpR_in (by omega), show 71 + x - 71 = x by omega]) hrow h
  have z1 : RZ row t n := RZ_of hn (fun j hj => hrow j (by omega)) z
  obtain ⟨v2, h2, z2⟩ := Rl_lim hL hL5 v1 h1 z1
  have e0 : mlS M L 71 5 = nI n := h2.2.2.2.2.2.2.1.1.trans v2.2.2.2.2.2.2.1
  have e75 : upd row 71 (nI L) 75 = mlS M L 71 5 := h2.2.2.2.2.2.2.1.1.symm
  obtain ⟨t3, n3, v3, h3, -, -⟩ := Rl_itE v2 h2 z2 k
  have ek : psR (upd row 71 (nI L)) k 75 = itF (mlS M L) 71 k 71 5 := h3.2.2.2.2.2.2.1.1.symm
  rw [ek, e75]
  refine ⟨i_sub0, fun s hs => ?_⟩
  obtain ⟨a, b, q1, q2, q3, q4, q5⟩ := cnt_mono v2 h2 z2 s (k - s)
  rw [show s + (k - s) = k by omega] at q5
  have q4' : itF (mlS M L) 71 s 71 5 = nI a := q4
  have q5' : itF (mlS M L) 71 k 71 5 = nI b := q5
  rw [e0, q4', q5']
  refine ⟨fun w z => ?_, fun w => ?_⟩
  · have := (nI_ltI (by omega) (by omega)).mp w
    have := nI_inj (by omega) (by omega) z
    omega
  · by_cases w2 : n < a
    · exact absurd ((nI_ltI (by omega) (by omega)).mpr w2) w
    · rw [show a = n by omega]
theorem ml_eq {M N : Mm} {t p n k i : Nat} {f : Nat → Int32} {v : Int32} (hv : RV f t p n) (h : Rl M 1 f t n) (z : RZ f t n) (hrow : ∀ j, j < 1804 → N 710 j = f j) (hi : i ≤ 5) (h1 : ∀ j, j < i → mlN M k (j + 1)) (h2 : i = 5 ∧ v = -1 ∨ i < 5 ∧ v = nI (i + 1) ∧ ∃ s, s ≤ k ∧ (s = k ∨ itF (mlS M (i + 1)) 71 s 71 5 ≠ mlS M (i + 1) 71 5) ∧ ¬ mlS M (i + 1) 71 5 < itF (mlS M (i + 1)) 71 s 71 5 ∧ (∀ j, j < s → itF (mlS M (i + 1)) 71 j 71 5 = mlS M (i + 1) 71 5)) : v = mlV N k 5 := by
  have hz : ∀ q, q < 5 → (nbV (mlR N k q) (nI (5 - q)) k = 0 ↔ itF (mlS M (5 - q)) 71 k 71 5 = mlS M (5 - q) 71 5) := fun q hq => (nb_iff (by omega) (by omega) hv h z (fun j hj => (mlR_row N k hj q).trans (hrow j hj))).1
  have no : ∀ L, 1 ≤ L → L ≤ i → ¬ itF (mlS M L) 71 k 71 5 = mlS M L 71 5 := by
    intro L hL hLi
    obtain ⟨s, hs, w, -⟩ := h1 (L - 1) (by omega)
    rw [show L - 1 + 1 = L by omega] at w
    exact ((nb_iff (by omega) (by omega) hv h z hrow).2 s hs).1 w
  have yes : i < 5 → itF (mlS M (i + 1)) 71 k 71 5 = mlS M (i + 1) 71 5 := by
    intro hi5
    rcases h2 with ⟨h2, -⟩ | ⟨-, -, s, hs, q1, q2, -⟩
    · omega
    · have w := ((nb_iff (by omega) (by omega) hv h z hrow).2 s hs).2 q2
      rcases q1 with q1 | q1
      · rw [← q1]; exact w
      · exact absurd w q1
  have st : ∀ q, q < 5 → mlV N k (q + 1) = if nbV (mlR N k q) (nI (5 - q)) k = 0 then nI (5 - q) else mlV N k q := fun q hq => rfl
  have up : ∀ q, q ≤ 5 → 5 - i ≤ q → mlV N k q = v := by
    intro q
    induction q with
    | zero =>
      intro _ w
      rcases h2 with ⟨-, h2⟩ | ⟨h2, -⟩
      · exact h2.symm
      · omega
    | succ q ih =>
      intro hq hq2
      rw [st q (by omega)]
      by_cases w : 5 - i ≤ q
      · rw [if_neg (fun z => no (5 - q) (by omega) (by omega) ((hz q (by omega)).mp z))]
        exact ih (by omega) w
      · have hqi : 5 - q = i + 1 := by omega
        rw [if_pos ((hz q (by omega)).mpr (by rw [hqi]; exact yes (by omega))), hqi]
        rcases h2 with ⟨h2, -⟩ | ⟨-, h2, -⟩
        · omega
        · exact h2.symm
  exact (up 5 (Nat.le_refl _) (by omega)).symm
