
/-! the pad is read and carried out, on both sides -/
theorem isNn_iff {n a : Nat} (ha : a < 1000) (hn : n ≤ 20) : (0 ≤ nI a ∧ nI a ≤ nI n - 1) ↔ a < n := by
  by_cases h0 : n = 0
  · subst h0
    exact ⟨fun z => absurd (Int32.lt_of_le_of_lt z.2 (show nI 0 - 1 < 0 by decide)) (nI_pos (by omega)), fun z => absurd z (by omega)⟩
  · rw [show nI n - 1 = nI (n - 1) from pk_sub (a := n) (b := 1) (by omega)]
    exact ⟨fun z => by have := (nI_leI (by omega) (by omega)).mp z.2; omega, fun z => ⟨nI_pos' (by omega), nI_le (by omega) (by omega)⟩⟩
theorem deF_o {M : Mm} {r e c x : Nat} (he : e < 20) (hc : c < 8) (h : oR r x) : deF M r (noP r e) c x = M x := by
  unfold deF
  split
  · exact va_up_ne _ _ (by (try simp only [chP, obP, noP] at *); omega)
  · rw [va_up_ne _ _ (by (try simp only [chP, obP, noP] at *); omega), va_up_ne _ _ (by (try simp only [chP, obP, noP] at *); omega)]
/-- an appeal that may not be possible -/
theorem Rel_ap {M : Mm} {a : Nat} {f : Nat → Int32} (ha : a < 20) (h : Rel M 1 f) : Rel (apM M (nI a)) 1 (if (0 ≤ nI a ∧ nI a ≤ f 75 - 1) ∧ f (132 + a) = 0 then daR f a (f (92 + a)).toNatClampNeg else f) ∧ (∀ x, 71 ≤ x → apM M (nI a) x = M x) ∧ ((if (0 ≤ nI a ∧ nI a ≤ f 75 - 1) ∧ f (132 + a) = 0 then daR f a (f (92 + a)).toNatClampNeg else f) 75 = f 75) := by
  have h' := h
  obtain ⟨t, p, n, hv, hh, z⟩ := h'
  have hn := hv.2.2.2.2.2.1
  have e75 := hv.2.2.2.2.2.2.1
  have e5 : M 1 5 = nI n := hh.2.2.2.2.2.2.1.1.trans e75
  have hx20 : nI a < 20 := (nI_ltI (a := a) (b := 20) (by omega) (by omega)).mpr ha
  rw [e75, if_iff (and_congr (isNn_iff (n := n) (a := a) (by omega) hn) (Iff.rfl : f (132 + a) = 0 ↔ f (132 + a) = 0))]
  by_cases q : a < n
  · have ec : apM M (nI a) = anM M a := by
      unfold apM
      rw [e5, if_pos ⟨nI_pos' (by omega), (nI_ltI (by omega) (by omega)).mpr q, hx20⟩, nI_clamp (by omega)]
    rw [ec]
    obtain ⟨q0, q1, q4, qw⟩ := hh.2.2.2.2.2.2.2 a q
    obtain ⟨c, hc, e92⟩ := z.2.2.2.1 a q
    unfold anM
    by_cases w : f (132 + a) = 0
    · have w4 : M (noP 1 a) 4 = 0 := by
        rcases q4 with ⟨x, -, -⟩ | ⟨-, -, x⟩ | ⟨-, -, x⟩
        · exact x
        · rw [w] at x; exact absurd x (by decide)
        · rw [w] at x; exact absurd x (by decide)
      rw [if_pos w4, if_pos ⟨q, w⟩, q0, e92, nI_clamp (by omega)]
      exact ⟨(Rel_appeal e75 hn q hc w h).1, fun x hx => deF_o ha hc (Or.inr (by omega)), (upd_ne _ _ (by omega)).trans ((upd_ne _ _ (by omega)).trans e75)⟩
    · have w4 : ¬ M (noP 1 a) 4 = 0 := by
        rcases q4 with ⟨-, -, x⟩ | ⟨x, -, -⟩ | ⟨x, -, -⟩
        · exact absurd x w
        · rw [x]; decide
        · rw [x]; decide
      rw [if_neg w4, if_neg (fun z => w z.2)]
      exact ⟨h, fun x hx => rfl, e75⟩
  · have ec : apM M (nI a) = M := by
      unfold apM
      rw [e5, if_neg (fun z => q ((nI_ltI (by omega) (by omega)).mp z.2.1))]
    rw [ec, if_neg (fun z => q z.1)]
    exact ⟨h, fun x hx => rfl, e75⟩
/-- a part is carried out, on both sides -/
theorem co_dc {M : Mm} {f g k : Nat → Int32} (h : Rel M 1 f) (ok : OKF g k) : Rel (coM M (g 3) (g 4) (g 5)) 1 (dcR f (k 11) (k 12).toNatClampNeg (k 13)) ∧ (∀ x, 71 ≤ x → coM M (g 3) (g 4) (g 5) x = M x) ∧ dvR f (k 11) (k 12).toNatClampNeg = dcR f (k 11) (k 12).toNatClampNeg (k 13) 75 - f 75 := by
  obtain ⟨hk, g3, g4, g5, hy, a, ha, e12, x3, x8, x24, x20⟩ := ok
  have nz : ∀ x : Int32, (0 : Int32) = x - x := fun x => (Int32.sub_self x).symm
  rw [g3, g4, e12, nI_clamp (by omega)]
  have o : ∀ x, 71 ≤ x → oR 1 x := fun x hx => Or.inr (by omega)
  rcases hk with e | e | e | e | e | e | e
  · rw [dcR_46 e, dvR_46 e]
    have ec : coM M (k 11) (nI a) (g 5) = itF M 1 a := by rw [coM, if_pos e, nI_clamp (by omega)]
    rw [ec]
    exact ⟨Rel_it h a, fun x hx => itF_o (o x hx) a, rfl⟩
  · rw [dcR_97 e, dvR_n 97 (by decide) e]
    have ec : coM M (k 11) (nI a) (g 5) = apM M (nI a) := by rw [e, coM, if_neg (by decide), if_pos rfl]
    rw [ec]
    obtain ⟨r1, r2, r3⟩ := Rel_ap (x20 e) h
    exact ⟨r1, r2, by rw [r3]; exact nz _⟩
  · have hc := x8 (Or.inr e)
    rw [dcR_100 e, dvR_n 100 (by decide) e, g5 (Or.inl e)]
    have ec : coM M (k 11) (nI a) (k 13) = va_up M (chP 1 a) (upd (M (chP 1 a)) 1 (k 13)) := by rw [e, coM, if_neg (by decide), if_neg (by decide), if_pos rfl, nI_clamp (by omega)]
    rw [ec]
    exact ⟨Rel_damp hc h, fun x hx => va_up_ne _ _ (by (try simp only [chP, obP, noP] at *); omega), by rw [upd_ne _ _ (by omega)]; exact nz _⟩
  · have hc := x8 (Or.inl e)
    rw [dcR_102 e, dvR_n 102 (by decide) e, g5 (Or.inr (Or.inl e))]
    have ec : coM M (k 11) (nI a) (k 13) = va_up M (chP 1 a) (upd (M (chP 1 a)) 0 (k 13)) := by rw [e, coM, if_neg (by decide), if_neg (by decide), if_neg (by decide), if_pos rfl, nI_clamp (by omega)]
    rw [ec]
    exact ⟨Rel_fire hc h, fun x hx => va_up_ne _ _ (by (try simp only [chP, obP, noP] at *); omega), by rw [upd_ne _ _ (by omega)]; exact nz _⟩
  · have hc := x24 e
    rw [dcR_103 e, dvR_n 103 (by decide) e, g5 (Or.inr (Or.inr (Or.inl e)))]
    have ec : coM M (k 11) (nI a) (k 13) = va_up M (1 + 4) (cgF (M (1 + 4)) (nI a) (k 13)) := by rw [e, coM, if_neg (by decide), if_neg (by decide), if_neg (by decide), if_neg (by decide), if_pos rfl]
    rw [ec]
    exact ⟨Rel_grey hc h, fun x hx => va_up_ne _ _ (by (try simp only [chP, obP, noP] at *); omega), by rw [upd_ne _ _ (by omega)]; exact nz _⟩
  · have hc := x3 (Or.inl e)
    rw [dcR_111 e, dvR_n 111 (by decide) e, g5 (Or.inr (Or.inr (Or.inr e)))]
    have ec : coM M (k 11) (nI a) (k 13) = va_up M (obP 1 a) (upd (M (obP 1 a)) 0 (k 13)) := by rw [e, coM, if_neg (by decide), if_neg (by decide), if_neg (by decide), if_neg (by decide), if_neg (by decide), if_pos rfl, nI_clamp (by omega)]
    rw [ec]
    exact ⟨Rel_watch hc (Or.inr (hy e)) h, fun x hx => va_up_ne _ _ (by (try simp only [chP, obP, noP] at *); omega), by rw [upd_ne _ _ (by omega)]; exact nz _⟩
  · have hc := x3 (Or.inr e)
    rw [dcR_114 e, dvR_n 114 (by decide) e]
    have ec : coM M (k 11) (nI a) (g 5) = va_up M (obP 1 a) (upd (M (obP 1 a)) 0 (-1)) := by rw [e, coM, if_neg (by decide), if_neg (by decide), if_neg (by decide), if_neg (by decide), if_neg (by decide), if_neg (by decide), if_pos rfl, nI_clamp (by omega)]
    rw [ec]
    exact ⟨Rel_watch hc (Or.inl rfl) h, fun x hx => va_up_ne _ _ (by (try simp only [chP, obP, noP] at *); omega), by rw [upd_ne _ _ (by omega)]; exact nz _⟩
/-- what the contracts of reading ask -/
theorem ok_rd {M : Mm} {f g k : Nat → Int32} (h : Rel M 1 f) (e : M 564 = g) (ok : OKF g k) : rdOk M ∧ ∃ a, raK k f a := by
  have hJ := Rel_CJ h
  have hW := Rel_RW h
  obtain ⟨hk, g3, g4, g5, hy, a, ha, e12, x3, x8, x24, x20⟩ := ok
  obtain ⟨t, p, n, hv, hh, z⟩ := h
  have hn := hv.2.2.2.2.2.1
  have e75 := hv.2.2.2.2.2.2.1
  refine ⟨⟨hJ, ⟨n, hn, hh.2.2.2.2.2.2.1.1.trans e75, Rl_nch hh z⟩, ?_, ?_, ?_⟩, a, hk, e12, ha, x3, x8, x24, x20, hW, fun i hi w => ?_⟩
  · rw [e, g3, g4, e12]
    exact fun w => in_k (n := 2) (by have := x3 w; omega) (by decide)
  · rw [e, g3, g4, e12]
    exact fun w => in_k (n := 7) (by have := x8 w; omega) (by decide)
  · rw [e, g3, g4, e12]
    exact fun w => ⟨a, ha, rfl⟩
  · rw [e75] at w
    have hin := (isNn_iff (by omega) hn).mp w
    obtain ⟨c, hc, ec⟩ := z.2.2.2.1 i hin
    rw [ec, nI_clamp (by omega)]
    exact ⟨hc, rfl⟩
/-- one part -/
theorem rd_step {U V : Mm} {a L : Nat} (hP : PD (U 565) (V 715) (U 564) (V 709) a L) (hR : Rel U 1 (V 710)) (hok : okP (V 715) L a = true) : (rdT U).1 = true ∧ (raT V).1 = true ∧ a < nxP (V 715) L a ∧ rdOk (rdU U) ∧ (∃ x, raK (raT V).2 (V 710) x) ∧ Rel (rdN U) 1 (raN V 710) ∧ (∀ x, 71 ≤ x → x ≠ 564 → rdN U x = U x) ∧ (∀ x, x ≠ 709 → x ≠ 710 → raN V x = V x) ∧ (∀ j, j < 9 → raN V 709 j = V 709 j) ∧ dvR (V 710) ((raT V).2 11) ((raT V).2 12).toNatClampNeg = raN V 710 75 - V 710 75 ∧ (nxP (V 715) L a < L → V 715 (nxP (V 715) L a) = 59 → PD (rdN U 565) (raN V 715) (rdN U 564) (raN V 709) (nxP (V 715) L a + 1) L) ∧ (nxP (V 715) L a = L → rdN U 564 1 = nI L ∧ rdN U 564 2 = nI L ∧ raN V 709 9 = nI (L + 1)) := by
  obtain ⟨e1, e2, hQ, hle, hq⟩ := part_is hP
  obtain ⟨hab, ok⟩ := hq hok
  have hR2 : Rel (rdU U) 1 (V 710) := Rel_mem (fun x q1 q2 => va_up_ne _ _ (by omega)) hR
  have eg : rdU U 564 = (rdT U).2 := va_up_self _ _ _
  have ok2 : OKF (rdU U 564) (raT V).2 := by rw [eg]; exact ok
  obtain ⟨r1, r2⟩ := ok_rd hR2 eg ok
  obtain ⟨c1, c2, c3⟩ := co_dc hR2 ok2
  have eD : ∀ x, 71 ≤ x → rdD U x = rdU U x := c2
  have eN : ∀ x, x ≠ 564 → rdN U x = rdD U x := fun x hx => va_up_ne _ _ hx
  have eN2 : rdN U 564 = (tsF (rdD U 565) (rdD U 564) 59).2 := va_up_self _ _ _
  have f564 : rdD U 564 = (rdT U).2 := (eD 564 (by omega)).trans eg
  have f565 : rdD U 565 = U 565 := (eD 565 (by omega)).trans (va_up_ne _ _ (by omega))
  have w709 : raN V 709 = upd (raT V).2 9 ((raT V).2 9 + 1) := va_up_self _ _ _
  have w710 : raN V 710 = dcR (V 710) ((raT V).2 11) ((raT V).2 12).toNatClampNeg ((raT V).2 13) := (va_up_ne _ _ (by omega)).trans (va_up_self _ _ _)
  have w715 : raN V 715 = V 715 := (va_up_ne _ _ (by omega)).trans ((va_up_ne _ _ (by omega)).trans (va_up_ne _ _ (by omega)))
  refine ⟨e1.trans hok, e2.trans hok, hab, r1, r2, ?_, fun x q1 q2 => (eN x q2).trans ((eD x q1).trans (va_up_ne _ _ q2)), fun x q1 q2 => (va_up_ne _ _ q1).trans ((va_up_ne _ _ q2).trans (va_up_ne _ _ q1)), fun j hj => ?_, ?_, fun hlt h59 => ?_, fun hL => ?_⟩
  · rw [w710]
    exact Rel_mem (fun x q1 q2 => eN x (by omega)) c1
  · rw [w709, upd_ne _ _ (by omega)]; exact partR_fr _ _ hj
  · rw [w710]; exact c3
  · obtain ⟨t1, t2⟩ := ts_ok hQ hlt h59
    have t1' : (tsF (U 565) (rdT U).2 59).2 = upd (rdT U).2 1 (nI (nxP (V 715) L a + 1)) := by
      show (tsF (U 565) (tpF (U 565) (U 564)).2 59).2 = _
      rw [t1]
    rw [eN2, f564, f565, t1', w709, w715, eN 565 (by omega), f565]
    exact PD_of hQ (by omega) rfl rfl (by rw [upd_at]; exact k_1 hQ) rfl
  · obtain ⟨t1, t2⟩ := ts_no (d := 59) hQ (fun z => by omega)
    have t1' : (tsF (U 565) (rdT U).2 59).2 = (rdT U).2 := by
      show (tsF (U 565) (tpF (U 565) (U 564)).2 59).2 = _
      rw [t1]
    have q1 : (rdT U).2 1 = nI L := by rw [← hL]; exact hQ.2.2.1
    have q2 : (rdT U).2 2 = nI L := hQ.2.2.2.1
    have q9 : (raT V).2 9 + 1 = nI (nxP (V 715) L a + 1) := k_1 hQ
    rw [eN2, f564, f565, t1', w709, upd_at, q9, hL]
    exact ⟨q1, q2, rfl⟩
theorem rdE_run {U : Mm} {n : Nat} : ∀ i, i ≤ n → (∀ j, j < i → (rdT (rdI U j)).1 = true) → rdE n U = rdE (n - i) (rdI U i) := by
  intro i
  induction i with
  | zero => intro _ _; rfl
  | succ i ih =>
    intro hi h
    rw [ih (by omega) (fun j hj => h j (by omega)), show n - i = (n - (i + 1)) + 1 by omega]
    show (if (rdT (rdI U i)).1 = true then rdE (n - (i + 1)) (rdN (rdI U i)) else _) = _
    rw [if_pos (h i (by omega))]; rfl
/-- all parts, on both sides -/
theorem rd_run {U V : Mm} {L N : Nat} (hP : PD (U 565) (V 715) (U 564) (V 709) 0 L) (hR : Rel U 1 (V 710)) (h1 : ∀ i, i < N → okP (V 715) L (posA (V 715) L 0 i) = true) (h2 : ∀ i, i + 1 < N → nxP (V 715) L (posA (V 715) L 0 i) < L ∧ V 715 (nxP (V 715) L (posA (V 715) L 0 i)) = 59) (h3 : nxP (V 715) L (posA (V 715) L 0 (N - 1)) = L) : ∀ i, i ≤ N → Rel (rdI U i) 1 (raI V i 710) ∧ (∀ x, 71 ≤ x → x ≠ 564 → rdI U i x = U x) ∧ (∀ x, x ≠ 709 → x ≠ 710 → raI V i x = V x) ∧ (∀ j, j < 9 → raI V i 709 j = V 709 j) ∧ raV V i = raI V i 710 75 - V 710 75 ∧ (i < N → PD (rdI U i 565) (raI V i 715) (rdI U i 564) (raI V i 709) (posA (V 715) L 0 i) L) ∧ (i = N → 1 ≤ N → rdI U i 564 1 = nI L ∧ rdI U i 564 2 = nI L ∧ raI V i 709 9 = nI (L + 1)) := by
  intro i
  induction i with
  | zero => intro _; exact ⟨hR, fun _ _ _ => rfl, fun _ _ _ => rfl, fun _ _ => rfl, (Int32.sub_self _).symm, fun _ => hP, fun q1 q2 => absurd q1 (by omega)⟩
  | succ i ih =>
    intro hi
    obtain ⟨i1, i2, i3, i4, i5, i6, -⟩ := ih (by omega)
    have e715 : raI V i 715 = V 715 := i3 715 (by omega) (by omega)
    have hPi := i6 (by omega)
    obtain ⟨s1, s2, s3, s4, s5, s6, s7, s8, s9, s10, s11, s12⟩ := rd_step hPi i1 (by rw [e715]; exact h1 i (by omega))
    rw [e715] at s11 s12
    refine ⟨s6, fun x q1 q2 => (s7 x q1 q2).trans (i2 x q1 q2), fun x q1 q2 => (s8 x q1 q2).trans (i3 x q1 q2), fun j hj => (s9 j hj).trans (i4 j hj), ?_, fun hlt => ?_, fun hN hN1 => ?_⟩
    · show raV V i + dvR (raI V i 710) ((raT (raI V i)).2 11) ((raT (raI V i)).2 12).toNatClampNeg = raN (raI V i) 710 75 - V 710 75
      rw [s10, i5, Int32.add_comm, Int32.sub_eq_add_neg, Int32.sub_eq_add_neg, Int32.sub_eq_add_neg, Int32.add_assoc, ← Int32.add_assoc (-raI V i 710 75), Int32.add_left_neg, Int32.zero_add]
    · obtain ⟨w1, w2⟩ := h2 i hlt
      exact s11 w1 w2
    · exact s12 (by rw [show i = N - 1 by omega]; exact h3)
/-- reading succeeds: the contracts' premises, and what comes of it -/
theorem rd_all {M U : Mm} {h L : Nat} (hR : Rel M 1 (M 710)) (hP : PRl M (M 715) L) (h8 : M 709 8 = nI L) (hS : hsS (M 142)) (u9 : U 709 = M 709) (u10 : U 710 = M 710) (u15 : U 715 = M 715) : (rdF M).1 = (rkF U).1 ∧ (rkF U).2 3 = M 709 3 ∧ (rkF U).2 8 = nI L ∧ (rdF M).2 2 = nI L ∧ ((rdF M).1 = -1 → (∀ i, i < 60 → (∀ j, j < i + 1 → (rdT (rdI (rdS M h) j)).1 = true) → rdOk (rdU (rdI (rdS M h) i))) ∧ ∃ N, N < 1000 ∧ (∀ i, i < N → AL (raI (rkS U h) i 709) ∧ ∃ a, raK (raT (raI (rkS U h) i)).2 (raI (rkS U h) i 710) a) ∧ (∀ i, i < N → ¬ raI (rkS U h) i 709 8 ≤ raI (rkS U h) i 709 9) ∧ raI (rkS U h) N 709 8 ≤ raI (rkS U h) N 709 9 ∧ rdE 60 (rdS M h) 1 5 - rdR M h 1 5 = raV (rkS U h) N ∧ Rel (rdE 60 (rdS M h)) 1 (raI (rkS U h) N 710) ∧ (∀ x, 71 ≤ x → x ≠ 564 → rdE 60 (rdS M h) x = rdS M h x) ∧ (∀ x, x ≠ 709 → x ≠ 710 → raI (rkS U h) N x = rkS U h x) ∧ (∀ j, j < 9 → raI (rkS U h) N 709 j = rkS U h 709 j)) := by
  obtain ⟨hL, h2, hc⟩ := hP
  have hP0 : PD (M 565) (U 715) (upd (M 564) 1 0) (upd (thM U 0 709) 9 0) 0 L := ⟨by omega, hL, rfl, h2, rfl, by show thM U 0 709 8 = nI L; show upd (U 709) 0 0 8 = nI L; rw [u9]; exact h8, fun j hj => by rw [u15]; exact hc j hj⟩
  have hf := ff_is 60 _ _ 0 hP0 (by omega)
  have hFe : (rdF M).1 = (rkF U).1 := fault_eq hP0
  have k3 : (rkF U).2 3 = M 709 3 := (faE_fr _ (by omega) 61 _).trans (by show U 709 3 = M 709 3; rw [u9])
  have k8 : (rkF U).2 8 = nI L := (faE_fr _ (by omega) 61 _).trans (by show U 709 8 = nI L; rw [u9]; exact h8)
  refine ⟨hFe, k3, k8, hf.2, fun hok => ?_⟩
  obtain ⟨N, n1, n2, n3, n4, n5⟩ := fv_ok (U 715) hL 60 0 (by omega) (by omega) (hf.1.symm.trans hok)
  -- the states before the first part
  have hS2 : hsS ((va_up M 564 (rdF M).2) 142) := by rw [va_up_ne _ _ (by omega)]; exact hS
  have r_o : ∀ x, x < 141 ∨ 563 ≤ x → x ≠ 564 → rdS M h x = M x := fun x q1 q2 => (va_up_ne _ _ q2).trans ((recM_o q1 hS2).trans (va_up_ne _ _ q2))
  have r564 : rdS M h 564 = upd (rdF M).2 1 0 := by
    show va_up (rdR M h) 564 (upd (rdR M h 564) 1 0) 564 = _
    rw [va_up_self]
    have : rdR M h 564 = (rdF M).2 := (recM_o (by omega) hS2).trans (va_up_self _ _ _)
    rw [this]
  have v715 : rkS U h 715 = U 715 := rfl
  have v710 : rkS U h 710 = U 710 := rfl
  have v9 : rkS U h 709 9 = 0 := rfl
  have v8 : rkS U h 709 8 = nI L := k8
  have P0 : PD (rdS M h 565) (rkS U h 715) (rdS M h 564) (rkS U h 709) 0 L := by
    rw [r_o 565 (by omega) (by omega), v715, r564]
    exact ⟨by omega, hL, rfl, hf.2, v9, v8, fun j hj => by rw [u15]; exact hc j hj⟩
  have R0 : Rel (rdS M h) 1 (rkS U h 710) := by
    rw [v710, u10]
    exact Rel_mem (fun x q1 q2 => r_o x (by omega) (by omega)) hR
  have run := rd_run P0 R0 (N := N) (by rw [v715]; exact fun i hi => (n3 i hi).1) (by rw [v715]; exact n4) (by rw [v715]; exact n5)
  have tru : ∀ i, i < N → (rdT (rdI (rdS M h) i)).1 = true ∧ rdOk (rdU (rdI (rdS M h) i)) ∧ ∃ a, raK (raT (raI (rkS U h) i)).2 (raI (rkS U h) i 710) a := by
    intro i hi
    obtain ⟨i1, i2, i3, i4, i5, i6, -⟩ := run i (by omega)
    have e715 : raI (rkS U h) i 715 = U 715 := i3 715 (by omega) (by omega)
    obtain ⟨s1, s2, s3, s4, s5, -⟩ := rd_step (i6 hi) i1 (by rw [e715, v715]; exact (n3 i hi).1)
    exact ⟨s1, s4, s5⟩
  obtain ⟨z1, z2, z3, z4, z5, -, z7⟩ := run N (Nat.le_refl _)
  obtain ⟨y1, y2, y9⟩ := z7 rfl n1
  have e565 : rdI (rdS M h) N 565 = M 565 := (z2 565 (by omega) (by omega)).trans (r_o 565 (by omega) (by omega))
  have PN : PD (rdI (rdS M h) N 565) (U 715) (rdI (rdS M h) N 564) (kcN L L) L L := ⟨Nat.le_refl _, hL, y1, y2, rfl, rfl, fun j hj => by rw [e565, u15]; exact hc j hj⟩
  have fN : (rdT (rdI (rdS M h) N)).1 = false := by
    have e1 := (part_is PN).1
    have e2 := nx_le (U 715) (Nat.le_refl L) hL
    by_cases w : okP (U 715) L L = true
    · exact absurd (e2.2 w) (by have := e2.1; omega)
    · show (tpF (rdI (rdS M h) N 565) (rdI (rdS M h) N 564)).1 = false
      rw [e1]; exact (Bool.not_eq_true _).mp w
  have eE : ∀ x, x ≠ 564 → rdE 60 (rdS M h) x = rdI (rdS M h) N x := by
    intro x hx
    rw [rdE_run N n2 (fun j hj => (tru j hj).1)]
    by_cases w : 60 - N = 0
    · rw [w]; rfl
    · obtain ⟨q, hq⟩ : ∃ q, 60 - N = q + 1 := ⟨60 - N - 1, by omega⟩
      rw [hq]
      show (if (rdT (rdI (rdS M h) N)).1 = true then _ else rdU (rdI (rdS M h) N)) x = _
      rw [if_neg (by rw [fN]; exact Bool.false_ne_true)]
      exact va_up_ne _ _ hx
  refine ⟨fun i hi hj => ?_, N, by omega, fun i hi => ⟨?_, (tru i hi).2.2⟩, fun i hi => ?_, ?_, ?_, Rel_mem (fun x q1 q2 => eE x (by omega)) z1, fun x q1 q2 => (eE x q2).trans (z2 x q1 q2), z3, z4⟩
  · by_cases w : i < N
    · exact (tru i w).2.1
    · exact absurd (hj N (by omega)) (by rw [fN]; exact Bool.false_ne_true)
  · have hPi := (run i (by omega)).2.2.2.2.2.1 hi
    exact ⟨_, L, hPi.1, hL, hPi.2.2.2.2.1, hPi.2.2.2.2.2.1⟩
  · have hPi := (run i (by omega)).2.2.2.2.2.1 hi
    have e2 := nx_le (U 715) (n3 i hi).2 hL
    have e3 := e2.2 (n3 i hi).1
    rw [hPi.2.2.2.2.1, hPi.2.2.2.2.2.1]
    exact nI_ge (by have := e2.1; rw [v715]; omega) (by omega)
  · have := z4 8 (by omega)
    rw [this, v8, y9]; exact nI_le (by omega) (by omega)
  · rw [z5, eE 1 (by omega), v710]
    have e5 : rdI (rdS M h) N 1 5 = raI (rkS U h) N 710 75 := by
      obtain ⟨t, p, n, hv, hh, z⟩ := z1
      exact hh.2.2.2.2.2.2.1.1
    have e6 : rdR M h 1 5 = U 710 75 := by
      have q : rdR M h 1 = M 1 := (recM_o (by omega) hS2).trans (va_up_ne _ _ (by omega))
      rw [q, u10]
      obtain ⟨t, p, n, hv, hh, z⟩ := hR
      exact hh.2.2.2.2.2.2.1.1
    rw [e5, e6]
