/-! each call, on both sides: the class's answer, the reference's, and what holds behind it -/
def CC (u2 : Mm) (k b : Int32) (o : Int64) : Prop := u2 709 0 = k ∧ (k = 0 → o = b.toInt64) ∧ INV u2
def CB (u2 : Mm) (k b : Int32) (o : Int64) : Prop := u2 709 0 = k ∧ (k = 0 → o = bL b) ∧ INV u2
/-- behind the class's call: the reference's contract, and that it answers the same -/
def N9 (C : Mm → Int32 → Int32 → Int64 → Prop) (l : Launch) (y : MethodName) (ws : List Cond) (rm : Room) (av : Nat → List Value) (k : Int32) (o : Int64) (u : Mm) : Prop := ∃ post9, Ct l y ws rm av u post9 ∧ ∀ B v u2, post9 B v u2 → ∃ b, v = some (.int b) ∧ C u2 k b o
theorem Cw.imp {l : Launch} {y : MethodName} {ws : List Cond} {rm : Room} {av : Nat → List Value} {M : Mm} {post post2 : Int32 → Int64 → Mm → Prop} (h : Cw l y ws rm av M post) (hp : ∀ k o u, post k o u → post2 k o u) : Cw l y ws rm av M post2 := by
  intro D ca cl B o sz p e ha hc hk s m args below hf happ hP hk2
  obtain ⟨k, oo, h1, h2, h3, ⟨⟨⟨v, u, o2, hv, hu, hw⟩, hF⟩, h5⟩⟩ := h D ca cl B o sz p e ha hc hk s m args below hf happ hP hk2
  exact ⟨k, oo, h1, h2, h3, ⟨⟨v, u, o2, hv, hp _ _ _ hu, hw⟩, hF⟩, h5⟩
theorem INV_th {M : Mm} (k : Int32) (I : INV M) : INV (thM M k) := INV_of (fun x _ _ => va_up_ne _ _ (by omega)) (fun x _ _ => va_up_ne _ _ (by omega)) (fun x _ _ => va_up_ne _ _ (by omega)) rfl rfl (fun _ _ => rfl) rfl rfl rfl rfl rfl rfl I
theorem CC_ask {M : Mm} {b : Int32} {o : Int64} (I : INV M) (h : o = b.toInt64) : CC (thM M 0) 0 b o := ⟨rfl, fun _ => h, INV_th 0 I⟩
theorem CB_ask {M : Mm} {b : Int32} {o : Int64} (I : INV M) (h : o = bL b) : CB (thM M 0) 0 b o := ⟨rfl, fun _ => h, INV_th 0 I⟩
theorem CC_err {M : Mm} {k b : Int32} {o : Int64} (I : INV M) (h : ¬ k = 0) : CC (thM M k) k b o := ⟨rfl, fun z => absurd z h, INV_th k I⟩
theorem CB_err {M : Mm} {k b : Int32} {o : Int64} (I : INV M) (h : ¬ k = 0) : CB (thM M k) k b o := ⟨rfl, fun z => absurd z h, INV_th k I⟩
theorem n_IA : ¬ xI = xA := by decide +kernel
theorem n_AI : ¬ xA = xI := by decide +kernel
theorem n_IS : ¬ xI = xS := by decide +kernel
theorem n_SI : ¬ xS = xI := by decide +kernel
theorem n_AS : ¬ xA = xS := by decide +kernel
theorem n_SA : ¬ xS = xA := by decide +kernel
theorem inOx {x : Int32} {c : Nat} (e : x = nI c) (h : c < 3) : 0 ≤ x ∧ x ≤ 2 := by rw [e]; exact in_k (n := 2) (by omega) (by decide)
theorem in1x {x : Int32} {c : Nat} (e : x = nI c) (h : c < 2) : 0 ≤ x ∧ x ≤ 1 := by rw [e]; exact in_k (n := 1) (by omega) (by decide)
theorem inrx {x : Int32} {k n : Nat} (e : x = nI k) (h1 : 1 ≤ k) (h2 : k ≤ n) (hn : n < 1000) : 1 ≤ x ∧ x ≤ nI n := by rw [e]; exact ⟨nI_le (a := 1) h1 (by omega), nI_le h2 (by omega)⟩
theorem innx {x : Int32} {e n : Nat} (hn : n ≤ 20) (ex : x = nI e) (h : e < n) : 0 ≤ x ∧ x < nI n ∧ x < 20 := by rw [ex]; exact ⟨nI_pos' (by omega), nI_lt h (by omega), (nI_ltI (a := e) (b := 20) (by omega) (by omega)).mpr (by omega)⟩
theorem isNx {x : Int32} {e n : Nat} (hn : n ≤ 20) (ex : x = nI e) (h : e < n) : isN n x := by rw [ex]; exact (isNn_iff (by omega) hn).mpr h
theorem nt_of {x : Int32} {n : Nat} (hn : n ≤ 20) (h : isN n x) : 0 ≤ x ∧ x < nI n ∧ x < 20 := by
  obtain ⟨e, he, ex⟩ := ofe hn h
  exact innx hn ex he
theorem sameN {x : Int32} {a b : Nat} (ha : a < 1000) (hb : b < 1000) (e1 : x = nI a) (e2 : x = nI b) : a = b := nI_inj (by omega) (by omega) (e1.symm.trans e2)
theorem atF_k (f : Nat → Int32) {t : Nat} (ht : t < 96) : atF f (nI t) = f t := by
  unfold atF
  rw [if_neg (nI_pos (by omega)), if_neg (show ¬ 96 ≤ nI t from nI_ge (a := t) (b := 96) (by omega) (by omega)), nI_clamp (by omega)]
theorem gyF_k (f : Nat → Int32) {t : Nat} (ht : t < 24) : gyF f (nI t) = f t := by
  unfold gyF
  rw [if_neg (nI_pos (by omega)), if_neg (show ¬ 24 ≤ nI t from nI_ge (a := t) (b := 24) (by omega) (by omega)), nI_clamp (by omega)]

set_option maxHeartbeats 400000 in
theorem S_shadeOf (l : Launch) (hls : l.stackTraces = false) {M : Mm} (I : INV M) (x1 : Int32) (x2 : Int32) : Cw l yL_shadeOf wsL_shadeOf rmL_shadeOf (fun B => [.ref (B + 0), .int x1, .int x2, .ref (B + 717)]) M (N9 CC l yX9_shadeOf wsX9_shadeOf rmX9_shadeOf (fun B => [.ref (B + 709), .int x1, .int x2])) := by
  obtain ⟨h, L, i1, i2, i3, i4, i5, i6⟩ := id I
  obtain ⟨t, p, n, hv, hh, z⟩ := id i1
  have hn := hv.2.2.2.2.2.1
  have e75 := hv.2.2.2.2.2.2.1
  have ht := hv.1
  have h74 := hv.2.1
  have hne := hv.2.2.2.2.2.2.2.1
  have e5 : M 1 5 = nI n := hh.2.2.2.2.2.2.1.1.trans e75
  have e19 : M 1 9 = nI t := hh.2.2.2.2.2.2.1.2.2.2.2.trans h74
  refine Cw.imp (kL_shadeOf l x1 x2 (kX8_shadeOf l hls  x1 x2) (fun B v u ⟨c, _, _, _, e, _⟩ => ⟨_, e⟩) (fun E u q => q.elim (fun w => Or.inl w.1) (fun w => Or.inr w.1))) (fun k o u h8 => ?_)
  rcases h8 with ⟨rfl, B0, v0, ⟨c, hc, ex, hy, e, eu⟩, ho⟩ | ⟨rfl, q | q⟩ | ⟨rfl, q | q⟩
  · cases e
    obtain rfl := eu.symm
    refine ⟨_, kX9_shadeOf l hne _ _, fun B v u2 h9 => ?_⟩
    rcases h9 with ⟨n1, -⟩ | ⟨-, n2, -⟩ | ⟨c', hc', ex', hy', e9, e8⟩
    · exact absurd (in7x ex hc) n1
    · exact absurd hy n2
    · subst e8
      refine ⟨_, e9, CC_ask I ?_⟩
      rw [ho]
      refine congrArg Int32.toInt64 ?_
      obtain rfl := sameN (by omega) (by omega) ex ex'
      obtain ⟨y, hy9, ey⟩ := ofk (n := 95) (by decide) hy
      rw [ey]
      exact Rl_sh hh z hc (by omega)
  · obtain ⟨-, n1, eu⟩ := q
    obtain rfl := eu.symm
    refine ⟨_, kX9_shadeOf l hne _ _, fun B v u2 h9 => ?_⟩
    rcases h9 with ⟨-, e9, e8⟩ | ⟨r1, -⟩ | ⟨c', hc', ex', hy', e9, e8⟩
    · subst e8; exact ⟨_, e9, CC_err I (by decide)⟩
    · exact absurd r1 n1
    · exact absurd (in7x ex' hc') n1
  · exact absurd q.1 n_IA
  · exact absurd q.1 n_AI
  · obtain ⟨-, r1, n2, eu⟩ := q
    obtain rfl := eu.symm
    refine ⟨_, kX9_shadeOf l hne _ _, fun B v u2 h9 => ?_⟩
    rcases h9 with ⟨n1, -⟩ | ⟨-, -, e9, e8⟩ | ⟨c', hc', ex', hy', e9, e8⟩
    · exact absurd r1 n1
    · subst e8; exact ⟨_, e9, CC_err I (by decide)⟩
    · exact absurd hy' n2

set_option maxHeartbeats 400000 in
theorem S_nextStoking (l : Launch) (hls : l.stackTraces = false) {M : Mm} (I : INV M) (x1 : Int32) (x2 : Int32) : Cw l yL_nextStoking wsL_nextStoking rmL_nextStoking (fun B => [.ref (B + 0), .int x1, .int x2, .ref (B + 717)]) M (N9 CC l yX9_nextStoking wsX9_nextStoking rmX9_nextStoking (fun B => [.ref (B + 709), .int x1, .int x2])) := by
  obtain ⟨h, L, i1, i2, i3, i4, i5, i6⟩ := id I
  obtain ⟨t, p, n, hv, hh, z⟩ := id i1
  have hn := hv.2.2.2.2.2.1
  have e75 := hv.2.2.2.2.2.2.1
  have ht := hv.1
  have h74 := hv.2.1
  have hne := hv.2.2.2.2.2.2.2.1
  have e5 : M 1 5 = nI n := hh.2.2.2.2.2.2.1.1.trans e75
  have e19 : M 1 9 = nI t := hh.2.2.2.2.2.2.1.2.2.2.2.trans h74
  have hT : ∀ c, c < 8 → 2 ≤ (M 710 (16 + c)).toNatClampNeg ∧ (M 710 (16 + c)).toNatClampNeg ≤ 12 ∧ M 710 (16 + c) = nI (M 710 (16 + c)).toNatClampNeg := fun c hc => by
    obtain ⟨a, b, w1, w2, w3, w4, w5⟩ := z.2.1 c hc
    rw [w4, nI_clamp (by omega)]; exact ⟨w1, w2, rfl⟩
  have hG : ∀ c, c < 8 → (M 710 (24 + c)).toNatClampNeg ≤ 11 ∧ M 710 (24 + c) = nI (M 710 (24 + c)).toNatClampNeg := fun c hc => by
    obtain ⟨a, b, w1, w2, w3, w4, w5⟩ := z.2.1 c hc
    rw [w5, nI_clamp (by omega)]; exact ⟨w3, rfl⟩
  refine Cw.imp (kL_nextStoking l x1 x2 (kX8_nextStoking l hls  x1 x2) (fun B v u ⟨c, _, _, _, e, _⟩ => ⟨_, e⟩) (fun E u q => q.elim (fun w => Or.inl w.1) (fun w => Or.inr w.1))) (fun k o u h8 => ?_)
  rcases h8 with ⟨rfl, B0, v0, ⟨c, hc, ex, hy, e, eu⟩, ho⟩ | ⟨rfl, q | q⟩ | ⟨rfl, q | q⟩
  · cases e
    obtain rfl := eu.symm
    refine ⟨_, kX9_nextStoking l (T := fun c => (M 710 (16 + c)).toNatClampNeg) (g := fun c => (M 710 (24 + c)).toNatClampNeg) hT hG _ _, fun B v u2 h9 => ?_⟩
    rcases h9 with ⟨n1, -⟩ | ⟨-, n2, -⟩ | ⟨c', b, hc', ex', hb, ey, i, w1, w2, e9, e8⟩
    · exact absurd (in7x ex hc) n1
    · exact absurd hy n2
    · subst e8
      refine ⟨_, e9, CC_ask I ?_⟩
      rw [ho]
      refine congrArg Int32.toInt64 ?_
      obtain rfl := sameN (by omega) (by omega) ex ex'
      obtain ⟨-, -, q2, q3, -, -⟩ := hh.1 c hc
      rw [ey]
      exact sto_eq (hT c hc).1 (hT c hc).2.1 (hG c hc).1 (by omega) (q2.trans (hT c hc).2.2) (q3.trans (hG c hc).2) w1 w2
  · obtain ⟨-, n1, eu⟩ := q
    obtain rfl := eu.symm
    refine ⟨_, kX9_nextStoking l (T := fun c => (M 710 (16 + c)).toNatClampNeg) (g := fun c => (M 710 (24 + c)).toNatClampNeg) hT hG _ _, fun B v u2 h9 => ?_⟩
    rcases h9 with ⟨-, e9, e8⟩ | ⟨r1, -⟩ | ⟨c', b, hc', ex', hb, ey, i, w1, w2, e9, e8⟩
    · subst e8; exact ⟨_, e9, CC_err I (by decide)⟩
    · exact absurd r1 n1
    · exact absurd (in7x ex' hc') n1
  · exact absurd q.1 n_IA
  · exact absurd q.1 n_AI
  · obtain ⟨-, r1, n2, eu⟩ := q
    obtain rfl := eu.symm
    refine ⟨_, kX9_nextStoking l (T := fun c => (M 710 (16 + c)).toNatClampNeg) (g := fun c => (M 710 (24 + c)).toNatClampNeg) hT hG _ _, fun B v u2 h9 => ?_⟩
    rcases h9 with ⟨n1, -⟩ | ⟨-, -, e9, e8⟩ | ⟨c', b, hc', ex', hb, ey, i, w1, w2, e9, e8⟩
    · exact absurd r1 n1
    · subst e8; exact ⟨_, e9, CC_err I (by decide)⟩
    · exact absurd (by rw [ey]; exact in_k (n := 95) (by omega) (by decide)) n2

set_option maxHeartbeats 400000 in
theorem S_smoke (l : Launch) (hls : l.stackTraces = false) {M : Mm} (I : INV M) (x1 : Int32) (x2 : Int32) (x3 : Int32) (x4 : Int32) : Cw l yL_smoke wsL_smoke rmL_smoke (fun B => [.ref (B + 0), .int x1, .int x2, .int x3, .int x4, .ref (B + 717)]) M (N9 CC l yX9_smoke wsX9_smoke rmX9_smoke (fun B => [.ref (B + 709), .int x1, .int x2, .int x3, .int x4])) := by
  obtain ⟨h, L, i1, i2, i3, i4, i5, i6⟩ := id I
  obtain ⟨t, p, n, hv, hh, z⟩ := id i1
  have hn := hv.2.2.2.2.2.1
  have e75 := hv.2.2.2.2.2.2.1
  have ht := hv.1
  have h74 := hv.2.1
  have hne := hv.2.2.2.2.2.2.2.1
  have e5 : M 1 5 = nI n := hh.2.2.2.2.2.2.1.1.trans e75
  have e19 : M 1 9 = nI t := hh.2.2.2.2.2.2.1.2.2.2.2.trans h74
  have hTG : ∀ c, c < 8 → ∃ t g, 2 ≤ t ∧ t ≤ 12 ∧ g ≤ 11 ∧ M (chP 1 c) 2 = nI t ∧ M (chP 1 c) 3 = nI g := fun c hc => by
    obtain ⟨a, b, w1, w2, w3, w4, w5⟩ := z.2.1 c hc
    obtain ⟨-, -, q2, q3, -, -⟩ := hh.1 c hc
    exact ⟨a, b, w1, w2, w3, q2.trans w4, q3.trans w5⟩
  refine Cw.imp (kL_smoke l x1 x2 x3 x4 (kX8_smoke l hls hTG x1 x2 x3 x4) (fun B v u ⟨c, a, b, _, _, _, _, _, _, t, g, _, e, _⟩ => ⟨_, e⟩) (fun E u q => q.elim (fun w => Or.inl w.1) (fun w => Or.inr w.1))) (fun k o u h8 => ?_)
  rcases h8 with ⟨rfl, B0, v0, ⟨c, a, b, hc, ex, hab, hb, ey, ez, T, g, ⟨g1, g2, g3, g4, g5⟩, e, eu⟩, ho⟩ | ⟨rfl, q | q⟩ | ⟨rfl, q | q⟩
  · cases e
    obtain rfl := eu.symm
    refine ⟨_, kX9_smoke l hne _ _ _ _, fun B v u2 h9 => ?_⟩
    rcases h9 with ⟨n1, -⟩ | ⟨-, n2, -⟩ | ⟨c', a', b', hc', ex', hab', hb', ey', ez', e9, e8⟩
    · exact absurd (in7x ex hc) n1
    · exact absurd ⟨by rw [ey]; exact in_k (n := 95) (by omega) (by decide), by rw [ey, ez]; exact nI_le hab (by omega), by rw [ez]; exact (in_k (n := 95) hb (by decide)).2⟩ n2
    · subst e8
      refine ⟨_, e9, CC_ask I ?_⟩
      rw [ho]
      refine congrArg Int32.toInt64 ?_
      obtain rfl := sameN (by omega) (by omega) ex ex'
      obtain rfl := sameN (by omega) (by omega) ey ey'
      obtain rfl := sameN (by omega) (by omega) ez ez'
      have hs : sumF (fun j => shC M (chP 1 c) (nI j)) a (b + 1 - a) = sumF (fun t => shR (M 710) c (nI t)) a (b + 1 - a) := sumF_congr a _ (fun j q1 q2 => Rl_sh hh z hc (by omega))
      by_cases w : x4 = 0
      · rw [if_pos w]; exact hs
      · rw [if_neg w, smT_eq g1 g2 g3 hab hb g4 g5]; exact hs
  · obtain ⟨-, n1, eu⟩ := q
    obtain rfl := eu.symm
    refine ⟨_, kX9_smoke l hne _ _ _ _, fun B v u2 h9 => ?_⟩
    rcases h9 with ⟨-, e9, e8⟩ | ⟨r1, -⟩ | ⟨c', a', b', hc', ex', hab', hb', ey', ez', e9, e8⟩
    · subst e8; exact ⟨_, e9, CC_err I (by decide)⟩
    · exact absurd r1 n1
    · exact absurd (in7x ex' hc') n1
  · exact absurd q.1 n_IA
  · exact absurd q.1 n_AI
  · obtain ⟨-, r1, n2, eu⟩ := q
    obtain rfl := eu.symm
    refine ⟨_, kX9_smoke l hne _ _ _ _, fun B v u2 h9 => ?_⟩
    rcases h9 with ⟨n1, -⟩ | ⟨-, -, e9, e8⟩ | ⟨c', a', b', hc', ex', hab', hb', ey', ez', e9, e8⟩
    · exact absurd r1 n1
    · subst e8; exact ⟨_, e9, CC_err I (by decide)⟩
    · exact absurd ⟨by rw [ey']; exact in_k (n := 95) (by omega) (by decide), by rw [ey', ez']; exact nI_le hab' (by omega), by rw [ez']; exact (in_k (n := 95) hb' (by decide)).2⟩ n2

set_option maxHeartbeats 400000 in
theorem S_readingOf (l : Launch) (hls : l.stackTraces = false) {M : Mm} (I : INV M) (x1 : Int32) (x2 : Int32) : Cw l yL_readingOf wsL_readingOf rmL_readingOf (fun B => [.ref (B + 0), .int x1, .int x2, .ref (B + 717)]) M (N9 CC l yX9_readingOf wsX9_readingOf rmX9_readingOf (fun B => [.ref (B + 709), .int x1, .int x2])) := by
  obtain ⟨h, L, i1, i2, i3, i4, i5, i6⟩ := id I
  obtain ⟨t, p, n, hv, hh, z⟩ := id i1
  have hn := hv.2.2.2.2.2.1
  have e75 := hv.2.2.2.2.2.2.1
  have ht := hv.1
  have h74 := hv.2.1
  have hne := hv.2.2.2.2.2.2.2.1
  have e5 : M 1 5 = nI n := hh.2.2.2.2.2.2.1.1.trans e75
  have e19 : M 1 9 = nI t := hh.2.2.2.2.2.2.1.2.2.2.2.trans h74
  refine Cw.imp (kL_readingOf l x1 x2 (kX8_readingOf l hls  x1 x2) (fun B v u ⟨c, _, _, _, e, _⟩ => ⟨_, e⟩) (fun E u q => q.elim (fun w => Or.inl w.1) (fun w => Or.inr w.1))) (fun k o u h8 => ?_)
  rcases h8 with ⟨rfl, B0, v0, ⟨c, hc, ex, hy, e, eu⟩, ho⟩ | ⟨rfl, q | q⟩ | ⟨rfl, q | q⟩
  · cases e
    obtain rfl := eu.symm
    refine ⟨_, kX9_readingOf l  _ _, fun B v u2 h9 => ?_⟩
    rcases h9 with ⟨n1, -⟩ | ⟨-, n2, -⟩ | ⟨c', y, hc', ex', hy9, ey, e9, e8⟩
    · exact absurd (in7x ex hc) n1
    · exact absurd hy n2
    · subst e8
      refine ⟨_, e9, CC_ask I ?_⟩
      rw [ho]
      refine congrArg Int32.toInt64 ?_
      obtain rfl := sameN (by omega) (by omega) ex ex'
      rw [ey, atF_k _ hy9]
      exact hh.2.1 c hc y hy9
  · obtain ⟨-, n1, eu⟩ := q
    obtain rfl := eu.symm
    refine ⟨_, kX9_readingOf l  _ _, fun B v u2 h9 => ?_⟩
    rcases h9 with ⟨-, e9, e8⟩ | ⟨r1, -⟩ | ⟨c', y, hc', ex', hy9, ey, e9, e8⟩
    · subst e8; exact ⟨_, e9, CC_err I (by decide)⟩
    · exact absurd r1 n1
    · exact absurd (in7x ex' hc') n1
  · exact absurd q.1 n_IA
  · exact absurd q.1 n_AI
  · obtain ⟨-, r1, n2, eu⟩ := q
    obtain rfl := eu.symm
    refine ⟨_, kX9_readingOf l  _ _, fun B v u2 h9 => ?_⟩
    rcases h9 with ⟨n1, -⟩ | ⟨-, -, e9, e8⟩ | ⟨c', y, hc', ex', hy9, ey, e9, e8⟩
    · exact absurd r1 n1
    · subst e8; exact ⟨_, e9, CC_err I (by decide)⟩
    · exact absurd (by rw [ey]; exact in_k (n := 95) (by omega) (by decide)) n2

set_option maxHeartbeats 400000 in
theorem S_readingsFrom (l : Launch) (hls : l.stackTraces = false) {M : Mm} (I : INV M) (x1 : Int32) (x2 : Int32) : Cw l yL_readingsFrom wsL_readingsFrom rmL_readingsFrom (fun B => [.ref (B + 0), .int x1, .int x2, .ref (B + 717)]) M (N9 CC l yX9_readingsFrom wsX9_readingsFrom rmX9_readingsFrom (fun B => [.ref (B + 709), .int x1, .int x2])) := by
  obtain ⟨h, L, i1, i2, i3, i4, i5, i6⟩ := id I
  obtain ⟨t, p, n, hv, hh, z⟩ := id i1
  have hn := hv.2.2.2.2.2.1
  have e75 := hv.2.2.2.2.2.2.1
  have ht := hv.1
  have h74 := hv.2.1
  have hne := hv.2.2.2.2.2.2.2.1
  have e5 : M 1 5 = nI n := hh.2.2.2.2.2.2.1.1.trans e75
  have e19 : M 1 9 = nI t := hh.2.2.2.2.2.2.1.2.2.2.2.trans h74
  refine Cw.imp (kL_readingsFrom l x1 x2 (kX8_readingsFrom l hls  x1 x2) (fun B v u ⟨c, _, _, _, e, _⟩ => ⟨_, e⟩) (fun E u q => q.elim (fun w => Or.inl w.1) (fun w => Or.inr w.1))) (fun k o u h8 => ?_)
  rcases h8 with ⟨rfl, B0, v0, ⟨c, hc, ex, hy, e, eu⟩, ho⟩ | ⟨rfl, q | q⟩ | ⟨rfl, q | q⟩
  · cases e
    obtain rfl := eu.symm
    refine ⟨_, kX9_readingsFrom l  _ _, fun B v u2 h9 => ?_⟩
    rcases h9 with ⟨n1, -⟩ | ⟨-, n2, -⟩ | ⟨c', hc', ex', hy', e9, e8⟩
    · exact absurd (in7x ex hc) n1
    · exact absurd hy n2
    · subst e8
      refine ⟨_, e9, CC_ask I ?_⟩
      rw [ho]
      refine congrArg Int32.toInt64 ?_
      obtain rfl := sameN (by omega) (by omega) ex ex'
      exact cnt_eq x2 96 (fun j hj => hh.2.1 c hc j hj)
  · obtain ⟨-, n1, eu⟩ := q
    obtain rfl := eu.symm
    refine ⟨_, kX9_readingsFrom l  _ _, fun B v u2 h9 => ?_⟩
    rcases h9 with ⟨-, e9, e8⟩ | ⟨r1, -⟩ | ⟨c', hc', ex', hy', e9, e8⟩
    · subst e8; exact ⟨_, e9, CC_err I (by decide)⟩
    · exact absurd r1 n1
    · exact absurd (in7x ex' hc') n1
  · exact absurd q.1 n_IA
  · exact absurd q.1 n_AI
  · obtain ⟨-, r1, n2, eu⟩ := q
    obtain rfl := eu.symm
    refine ⟨_, kX9_readingsFrom l  _ _, fun B v u2 h9 => ?_⟩
    rcases h9 with ⟨n1, -⟩ | ⟨-, -, e9, e8⟩ | ⟨c', hc', ex', hy', e9, e8⟩
    · exact absurd r1 n1
    · subst e8; exact ⟨_, e9, CC_err I (by decide)⟩
    · exact absurd hy' n2

set_option maxHeartbeats 400000 in
theorem S_longestRow (l : Launch) (hls : l.stackTraces = false) {M : Mm} (I : INV M) (x1 : Int32) (x2 : Int32) (x3 : Int32) : Cw l yL_longestRow wsL_longestRow rmL_longestRow (fun B => [.ref (B + 0), .int x1, .int x2, .int x3, .ref (B + 717)]) M (N9 CC l yX9_longestRow wsX9_longestRow rmX9_longestRow (fun B => [.ref (B + 709), .int x1, .int x2, .int x3])) := by
  obtain ⟨h, L, i1, i2, i3, i4, i5, i6⟩ := id I
  obtain ⟨t, p, n, hv, hh, z⟩ := id i1
  have hn := hv.2.2.2.2.2.1
  have e75 := hv.2.2.2.2.2.2.1
  have ht := hv.1
  have h74 := hv.2.1
  have hne := hv.2.2.2.2.2.2.2.1
  have e5 : M 1 5 = nI n := hh.2.2.2.2.2.2.1.1.trans e75
  have e19 : M 1 9 = nI t := hh.2.2.2.2.2.2.1.2.2.2.2.trans h74
  refine Cw.imp (kL_longestRow l x1 x2 x3 (kX8_longestRow l hls  x1 x2 x3) (fun B v u ⟨c, _, _, _, e, _⟩ => ⟨_, e⟩) (fun E u q => q.elim (fun w => Or.inl w.1) (fun w => Or.inr w.1))) (fun k o u h8 => ?_)
  rcases h8 with ⟨rfl, B0, v0, ⟨c, hc, ex, hy, e, eu⟩, ho⟩ | ⟨rfl, q | q⟩ | ⟨rfl, q | q⟩
  · cases e
    obtain rfl := eu.symm
    refine ⟨_, kX9_longestRow l  _ _ _, fun B v u2 h9 => ?_⟩
    rcases h9 with ⟨n1, -⟩ | ⟨-, n2, -⟩ | ⟨c', hc', ex', hy', e9, e8⟩
    · exact absurd (in7x ex hc) n1
    · exact absurd hy n2
    · subst e8
      refine ⟨_, e9, CC_ask I ?_⟩
      rw [ho]
      refine congrArg Int32.toInt64 ?_
      obtain rfl := sameN (by omega) (by omega) ex ex'
      by_cases w : x3 = 0
      · rw [if_pos w]; exact lng_eq x2 96 (fun j hj => hh.2.1 c hc j hj)
      · rw [if_neg w]; exact lngR_eq x2 (fun j hj => hh.2.1 c hc j hj)
  · obtain ⟨-, n1, eu⟩ := q
    obtain rfl := eu.symm
    refine ⟨_, kX9_longestRow l  _ _ _, fun B v u2 h9 => ?_⟩
    rcases h9 with ⟨-, e9, e8⟩ | ⟨r1, -⟩ | ⟨c', hc', ex', hy', e9, e8⟩
    · subst e8; exact ⟨_, e9, CC_err I (by decide)⟩
    · exact absurd r1 n1
    · exact absurd (in7x ex' hc') n1
  · exact absurd q.1 n_IA
  · exact absurd q.1 n_AI
  · obtain ⟨-, r1, n2, eu⟩ := q
    obtain rfl := eu.symm
    refine ⟨_, kX9_longestRow l  _ _ _, fun B v u2 h9 => ?_⟩
    rcases h9 with ⟨n1, -⟩ | ⟨-, -, e9, e8⟩ | ⟨c', hc', ex', hy', e9, e8⟩
    · exact absurd r1 n1
    · subst e8; exact ⟨_, e9, CC_err I (by decide)⟩
    · exact absurd hy' n2

set_option maxHeartbeats 400000 in
theorem S_greyOf (l : Launch) (hls : l.stackTraces = false) {M : Mm} (I : INV M) (x1 : Int32) : Cw l yL_greyOf wsL_greyOf rmL_greyOf (fun B => [.ref (B + 0), .int x1, .ref (B + 717)]) M (N9 CC l yX9_greyOf wsX9_greyOf rmX9_greyOf (fun B => [.ref (B + 709), .int x1])) := by
  obtain ⟨h, L, i1, i2, i3, i4, i5, i6⟩ := id I
  obtain ⟨t, p, n, hv, hh, z⟩ := id i1
  have hn := hv.2.2.2.2.2.1
  have e75 := hv.2.2.2.2.2.2.1
  have ht := hv.1
  have h74 := hv.2.1
  have hne := hv.2.2.2.2.2.2.2.1
  have e5 : M 1 5 = nI n := hh.2.2.2.2.2.2.1.1.trans e75
  have e19 : M 1 9 = nI t := hh.2.2.2.2.2.2.1.2.2.2.2.trans h74
  refine Cw.imp (kL_greyOf l x1 (kX8_greyOf l hls  x1) (fun B v u ⟨_, e, _⟩ => ⟨_, e⟩) (fun E u q => q.1)) (fun k o u h8 => ?_)
  rcases h8 with ⟨rfl, B0, v0, ⟨hx, e, eu⟩, ho⟩ | ⟨rfl, q⟩
  · cases e
    obtain rfl := eu.symm
    refine ⟨_, kX9_greyOf l  _, fun B v u2 h9 => ?_⟩
    rcases h9 with ⟨n1, -⟩ | ⟨c, hc, ex, e9, e8⟩
    · exact absurd hx n1
    · subst e8
      refine ⟨_, e9, CC_ask I ?_⟩
      rw [ho]
      refine congrArg Int32.toInt64 ?_
      rw [ex, gyF_k _ hc]
      exact hh.2.2.2.2.1 c hc
  · obtain ⟨-, n1, eu⟩ := q
    obtain rfl := eu.symm
    refine ⟨_, kX9_greyOf l  _, fun B v u2 h9 => ?_⟩
    rcases h9 with ⟨-, e9, e8⟩ | ⟨c, hc, ex, e9, e8⟩
    · subst e8; exact ⟨_, e9, CC_err I (by decide)⟩
    · exact absurd (by rw [ex]; exact in_k (n := 23) (by omega) (by decide)) n1

set_option maxHeartbeats 400000 in
theorem S_watchedBy (l : Launch) (hls : l.stackTraces = false) {M : Mm} (I : INV M) (x1 : Int32) : Cw l yL_watchedBy wsL_watchedBy rmL_watchedBy (fun B => [.ref (B + 0), .int x1, .ref (B + 717)]) M (N9 CC l yX9_watchedBy wsX9_watchedBy rmX9_watchedBy (fun B => [.ref (B + 709), .int x1])) := by
  obtain ⟨h, L, i1, i2, i3, i4, i5, i6⟩ := id I
  obtain ⟨t, p, n, hv, hh, z⟩ := id i1
  have hn := hv.2.2.2.2.2.1
  have e75 := hv.2.2.2.2.2.2.1
  have ht := hv.1
  have h74 := hv.2.1
  have hne := hv.2.2.2.2.2.2.2.1
  have e5 : M 1 5 = nI n := hh.2.2.2.2.2.2.1.1.trans e75
  have e19 : M 1 9 = nI t := hh.2.2.2.2.2.2.1.2.2.2.2.trans h74
  refine Cw.imp (kL_watchedBy l x1 (kX8_watchedBy l hls  x1) (fun B v u ⟨c, _, _, e, _⟩ => ⟨_, e⟩) (fun E u q => q.1)) (fun k o u h8 => ?_)
  rcases h8 with ⟨rfl, B0, v0, ⟨c, hc, ex, e, eu⟩, ho⟩ | ⟨rfl, q⟩
  · cases e
    obtain rfl := eu.symm
    refine ⟨_, kX9_watchedBy l  _, fun B v u2 h9 => ?_⟩
    obtain ⟨e9, e8⟩ := h9
    have r1 : 0 ≤ x1 ∧ x1 ≤ 2 := inOx ex hc
    rw [show toT x1 = 0 from if_pos r1] at e8
    subst e8
    refine ⟨_, e9, CC_ask I ?_⟩
    rw [ho]
    refine congrArg Int32.toInt64 ?_
    rw [show toR (M 710) 62 x1 = M 710 (62 + x1.toNatClampNeg) from if_pos r1, ex, nI_clamp (by omega)]
    exact (hh.2.2.2.1 c hc).1
  · obtain ⟨-, n1, eu⟩ := q
    obtain rfl := eu.symm
    refine ⟨_, kX9_watchedBy l  _, fun B v u2 h9 => ?_⟩
    obtain ⟨e9, e8⟩ := h9
    have r1 : ¬ (0 ≤ x1 ∧ x1 ≤ 2) := n1
    rw [show toT x1 = 1 from if_neg r1] at e8
    subst e8
    exact ⟨_, e9, CC_err I (by decide)⟩

set_option maxHeartbeats 400000 in
theorem S_tirednessOf (l : Launch) (hls : l.stackTraces = false) {M : Mm} (I : INV M) (x1 : Int32) : Cw l yL_tirednessOf wsL_tirednessOf rmL_tirednessOf (fun B => [.ref (B + 0), .int x1, .ref (B + 717)]) M (N9 CC l yX9_tirednessOf wsX9_tirednessOf rmX9_tirednessOf (fun B => [.ref (B + 709), .int x1])) := by
  obtain ⟨h, L, i1, i2, i3, i4, i5, i6⟩ := id I
  obtain ⟨t, p, n, hv, hh, z⟩ := id i1
  have hn := hv.2.2.2.2.2.1
  have e75 := hv.2.2.2.2.2.2.1
  have ht := hv.1
  have h74 := hv.2.1
  have hne := hv.2.2.2.2.2.2.2.1
  have e5 : M 1 5 = nI n := hh.2.2.2.2.2.2.1.1.trans e75
  have e19 : M 1 9 = nI t := hh.2.2.2.2.2.2.1.2.2.2.2.trans h74
  refine Cw.imp (kL_tirednessOf l x1 (kX8_tirednessOf l hls  x1) (fun B v u ⟨c, _, _, e, _⟩ => ⟨_, e⟩) (fun E u q => q.1)) (fun k o u h8 => ?_)
  rcases h8 with ⟨rfl, B0, v0, ⟨c, hc, ex, e, eu⟩, ho⟩ | ⟨rfl, q⟩
  · cases e
    obtain rfl := eu.symm
    refine ⟨_, kX9_tirednessOf l  _, fun B v u2 h9 => ?_⟩
    obtain ⟨e9, e8⟩ := h9
    have r1 : 0 ≤ x1 ∧ x1 ≤ 2 := inOx ex hc
    rw [show toT x1 = 0 from if_pos r1] at e8
    subst e8
    refine ⟨_, e9, CC_ask I ?_⟩
    rw [ho]
    refine congrArg Int32.toInt64 ?_
    rw [show toR (M 710) 59 x1 = M 710 (59 + x1.toNatClampNeg) from if_pos r1, ex, nI_clamp (by omega)]
    exact (hh.2.2.2.1 c hc).2.2.1
  · obtain ⟨-, n1, eu⟩ := q
    obtain rfl := eu.symm
    refine ⟨_, kX9_tirednessOf l  _, fun B v u2 h9 => ?_⟩
    obtain ⟨e9, e8⟩ := h9
    have r1 : ¬ (0 ≤ x1 ∧ x1 ≤ 2) := n1
    rw [show toT x1 = 1 from if_neg r1] at e8
    subst e8
    exact ⟨_, e9, CC_err I (by decide)⟩

set_option maxHeartbeats 400000 in
theorem S_errorsOf (l : Launch) (hls : l.stackTraces = false) {M : Mm} (I : INV M) (x1 : Int32) : Cw l yL_errorsOf wsL_errorsOf rmL_errorsOf (fun B => [.ref (B + 0), .int x1, .ref (B + 717)]) M (N9 CC l yX9_errorsOf wsX9_errorsOf rmX9_errorsOf (fun B => [.ref (B + 709), .int x1])) := by
  obtain ⟨h, L, i1, i2, i3, i4, i5, i6⟩ := id I
  obtain ⟨t, p, n, hv, hh, z⟩ := id i1
  have hn := hv.2.2.2.2.2.1
  have e75 := hv.2.2.2.2.2.2.1
  have ht := hv.1
  have h74 := hv.2.1
  have hne := hv.2.2.2.2.2.2.2.1
  have e5 : M 1 5 = nI n := hh.2.2.2.2.2.2.1.1.trans e75
  have e19 : M 1 9 = nI t := hh.2.2.2.2.2.2.1.2.2.2.2.trans h74
  refine Cw.imp (kL_errorsOf l x1 (kX8_errorsOf l hls  x1) (fun B v u ⟨c, _, _, e, _⟩ => ⟨_, e⟩) (fun E u q => q.1)) (fun k o u h8 => ?_)
  rcases h8 with ⟨rfl, B0, v0, ⟨c, hc, ex, e, eu⟩, ho⟩ | ⟨rfl, q⟩
  · cases e
    obtain rfl := eu.symm
    refine ⟨_, kX9_errorsOf l  _, fun B v u2 h9 => ?_⟩
    obtain ⟨e9, e8⟩ := h9
    have r1 : 0 ≤ x1 ∧ x1 ≤ 2 := inOx ex hc
    rw [show toT x1 = 0 from if_pos r1] at e8
    subst e8
    refine ⟨_, e9, CC_ask I ?_⟩
    rw [ho]
    refine congrArg Int32.toInt64 ?_
    rw [show toR (M 710) 65 x1 = M 710 (65 + x1.toNatClampNeg) from if_pos r1, ex, nI_clamp (by omega)]
    exact (hh.2.2.2.1 c hc).2.2.2.1
  · obtain ⟨-, n1, eu⟩ := q
    obtain rfl := eu.symm
    refine ⟨_, kX9_errorsOf l  _, fun B v u2 h9 => ?_⟩
    obtain ⟨e9, e8⟩ := h9
    have r1 : ¬ (0 ≤ x1 ∧ x1 ≤ 2) := n1
    rw [show toT x1 = 1 from if_neg r1] at e8
    subst e8
    exact ⟨_, e9, CC_err I (by decide)⟩

set_option maxHeartbeats 400000 in
theorem S_wouldRead (l : Launch) (hls : l.stackTraces = false) {M : Mm} (I : INV M) (x1 : Int32) (x2 : Int32) : Cw l yL_wouldRead wsL_wouldRead rmL_wouldRead (fun B => [.ref (B + 0), .int x1, .int x2, .ref (B + 717)]) M (N9 CC l yX9_wouldRead wsX9_wouldRead rmX9_wouldRead (fun B => [.ref (B + 709), .int x1, .int x2])) := by
  obtain ⟨h, L, i1, i2, i3, i4, i5, i6⟩ := id I
  obtain ⟨t, p, n, hv, hh, z⟩ := id i1
  have hn := hv.2.2.2.2.2.1
  have e75 := hv.2.2.2.2.2.2.1
  have ht := hv.1
  have h74 := hv.2.1
  have hne := hv.2.2.2.2.2.2.2.1
  have e5 : M 1 5 = nI n := hh.2.2.2.2.2.2.1.1.trans e75
  have e19 : M 1 9 = nI t := hh.2.2.2.2.2.2.1.2.2.2.2.trans h74
  refine Cw.imp (kL_wouldRead l x1 x2 (kX8_wouldRead l hls  x1 x2) (fun B v u ⟨c, _, _, d, _, _, e, _⟩ => ⟨_, e⟩) (fun E u q => q.1)) (fun k o u h8 => ?_)
  rcases h8 with ⟨rfl, B0, v0, ⟨c, hc, ex, d, hd, ey, e, eu⟩, ho⟩ | ⟨rfl, q⟩
  · cases e
    obtain rfl := eu.symm
    refine ⟨_, kX9_wouldRead l ht h74 hne _ _, fun B v u2 h9 => ?_⟩
    rcases h9 with ⟨n1, -⟩ | ⟨c', d', hc', ex', hd', ey', e9, e8⟩
    · exact absurd ⟨inOx ex hc, in7x ey hd⟩ n1
    · subst e8
      refine ⟨_, e9, CC_ask I ?_⟩
      rw [ho]
      refine congrArg Int32.toInt64 ?_
      obtain rfl := sameN (by omega) (by omega) ex ex'
      obtain rfl := sameN (by omega) (by omega) ey ey'
      rw [e19, Rl_sh hh z hd (by omega), gyF_gr hh.2.2.2.2.1 ht]
      exact rdC_rdg hh.2.2.2.1 hc h74
  · obtain ⟨-, n1, eu⟩ := q
    obtain rfl := eu.symm
    refine ⟨_, kX9_wouldRead l ht h74 hne _ _, fun B v u2 h9 => ?_⟩
    rcases h9 with ⟨-, e9, e8⟩ | ⟨c', d', hc', ex', hd', ey', e9, e8⟩
    · subst e8; exact ⟨_, e9, CC_err I (by decide)⟩
    · exact absurd ⟨inOx ex' hc', in7x ey' hd'⟩ n1

set_option maxHeartbeats 400000 in
theorem S_chimneyOf (l : Launch) (hls : l.stackTraces = false) {M : Mm} (I : INV M) (x1 : Int32) : Cw l yL_chimneyOf wsL_chimneyOf rmL_chimneyOf (fun B => [.ref (B + 0), .int x1, .ref (B + 717)]) M (N9 CC l yX9_chimneyOf wsX9_chimneyOf rmX9_chimneyOf (fun B => [.ref (B + 709), .int x1])) := by
  obtain ⟨h, L, i1, i2, i3, i4, i5, i6⟩ := id I
  obtain ⟨t, p, n, hv, hh, z⟩ := id i1
  have hn := hv.2.2.2.2.2.1
  have e75 := hv.2.2.2.2.2.2.1
  have ht := hv.1
  have h74 := hv.2.1
  have hne := hv.2.2.2.2.2.2.2.1
  have e5 : M 1 5 = nI n := hh.2.2.2.2.2.2.1.1.trans e75
  have e19 : M 1 9 = nI t := hh.2.2.2.2.2.2.1.2.2.2.2.trans h74
  refine Cw.imp (kL_chimneyOf l x1 (kX8_chimneyOf l hls e5 hn x1) (fun B v u ⟨c, _, _, e, _⟩ => ⟨_, e⟩) (fun E u q => q.1)) (fun k o u h8 => ?_)
  rcases h8 with ⟨rfl, B0, v0, ⟨c, hc, ex, e, eu⟩, ho⟩ | ⟨rfl, q⟩
  · cases e
    obtain rfl := eu.symm
    refine ⟨_, kX9_chimneyOf l e75 hn _, fun B v u2 h9 => ?_⟩
    obtain ⟨e9, e8⟩ := h9
    have r1 : isN n x1 := isNx hn ex hc
    rw [show tnT n x1 = 0 from if_pos r1] at e8
    subst e8
    refine ⟨_, e9, CC_ask I ?_⟩
    rw [ho]
    refine congrArg Int32.toInt64 ?_
    rw [show tnR (M 710) 92 n x1 = M 710 (92 + x1.toNatClampNeg) from if_pos r1, ex, nI_clamp (by omega)]
    exact (hh.2.2.2.2.2.2.2 c hc).1
  · obtain ⟨-, n1, eu⟩ := q
    obtain rfl := eu.symm
    refine ⟨_, kX9_chimneyOf l e75 hn _, fun B v u2 h9 => ?_⟩
    obtain ⟨e9, e8⟩ := h9
    have r1 : ¬ (isN n x1) := fun w => n1 (nt_of hn w)
    rw [show tnT n x1 = 1 from if_neg r1] at e8
    subst e8
    exact ⟨_, e9, CC_err I (by decide)⟩

set_option maxHeartbeats 400000 in
theorem S_fineOf (l : Launch) (hls : l.stackTraces = false) {M : Mm} (I : INV M) (x1 : Int32) : Cw l yL_fineOf wsL_fineOf rmL_fineOf (fun B => [.ref (B + 0), .int x1, .ref (B + 717)]) M (N9 CC l yX9_fineOf wsX9_fineOf rmX9_fineOf (fun B => [.ref (B + 709), .int x1])) := by
  obtain ⟨h, L, i1, i2, i3, i4, i5, i6⟩ := id I
  obtain ⟨t, p, n, hv, hh, z⟩ := id i1
  have hn := hv.2.2.2.2.2.1
  have e75 := hv.2.2.2.2.2.2.1
  have ht := hv.1
  have h74 := hv.2.1
  have hne := hv.2.2.2.2.2.2.2.1
  have e5 : M 1 5 = nI n := hh.2.2.2.2.2.2.1.1.trans e75
  have e19 : M 1 9 = nI t := hh.2.2.2.2.2.2.1.2.2.2.2.trans h74
  refine Cw.imp (kL_fineOf l x1 (kX8_fineOf l hls e5 hn x1) (fun B v u ⟨c, _, _, e, _⟩ => ⟨_, e⟩) (fun E u q => q.1)) (fun k o u h8 => ?_)
  rcases h8 with ⟨rfl, B0, v0, ⟨c, hc, ex, e, eu⟩, ho⟩ | ⟨rfl, q⟩
  · cases e
    obtain rfl := eu.symm
    refine ⟨_, kX9_fineOf l e75 hn _, fun B v u2 h9 => ?_⟩
    obtain ⟨e9, e8⟩ := h9
    have r1 : isN n x1 := isNx hn ex hc
    rw [show tnT n x1 = 0 from if_pos r1] at e8
    subst e8
    refine ⟨_, e9, CC_ask I ?_⟩
    rw [ho]
    refine congrArg Int32.toInt64 ?_
    rw [show tnR (M 710) 112 n x1 = M 710 (112 + x1.toNatClampNeg) from if_pos r1, ex, nI_clamp (by omega)]
    exact (hh.2.2.2.2.2.2.2 c hc).2.1
  · obtain ⟨-, n1, eu⟩ := q
    obtain rfl := eu.symm
    refine ⟨_, kX9_fineOf l e75 hn _, fun B v u2 h9 => ?_⟩
    obtain ⟨e9, e8⟩ := h9
    have r1 : ¬ (isN n x1) := fun w => n1 (nt_of hn w)
    rw [show tnT n x1 = 1 from if_neg r1] at e8
    subst e8
    exact ⟨_, e9, CC_err I (by decide)⟩

set_option maxHeartbeats 400000 in
theorem S_wouldAppeal (l : Launch) (hls : l.stackTraces = false) {M : Mm} (I : INV M) (x1 : Int32) : Cw l yL_wouldAppeal wsL_wouldAppeal rmL_wouldAppeal (fun B => [.ref (B + 0), .int x1, .ref (B + 717)]) M (N9 CC l yX9_wouldAppeal wsX9_wouldAppeal rmX9_wouldAppeal (fun B => [.ref (B + 709), .int x1])) := by
  obtain ⟨h, L, i1, i2, i3, i4, i5, i6⟩ := id I
  obtain ⟨t, p, n, hv, hh, z⟩ := id i1
  have hn := hv.2.2.2.2.2.1
  have e75 := hv.2.2.2.2.2.2.1
  have ht := hv.1
  have h74 := hv.2.1
  have hne := hv.2.2.2.2.2.2.2.1
  have e5 : M 1 5 = nI n := hh.2.2.2.2.2.2.1.1.trans e75
  have e19 : M 1 9 = nI t := hh.2.2.2.2.2.2.1.2.2.2.2.trans h74
  refine Cw.imp (kL_wouldAppeal l x1 (kX8_wouldAppeal l hls e5 hn x1) (fun B v u ⟨c, _, _, e, _⟩ => ⟨_, e⟩) (fun E u q => q.1)) (fun k o u h8 => ?_)
  rcases h8 with ⟨rfl, B0, v0, ⟨c, hc, ex, e, eu⟩, ho⟩ | ⟨rfl, q⟩
  · cases e
    obtain rfl := eu.symm
    refine ⟨_, kX9_wouldAppeal l e75 hn _, fun B v u2 h9 => ?_⟩
    rcases h9 with ⟨n1, -⟩ | ⟨c', hc', ex', e9, e8⟩
    · exact absurd (isNx hn ex hc) n1
    · subst e8
      refine ⟨_, e9, CC_ask I ?_⟩
      rw [ho]
      refine congrArg Int32.toInt64 ?_
      obtain rfl := sameN (by omega) (by omega) ex ex'
      exact out_eq hh.2.2.2.2.2.2.2 hc
  · obtain ⟨-, n1, eu⟩ := q
    obtain rfl := eu.symm
    refine ⟨_, kX9_wouldAppeal l e75 hn _, fun B v u2 h9 => ?_⟩
    rcases h9 with ⟨-, e9, e8⟩ | ⟨c', hc', ex', e9, e8⟩
    · subst e8; exact ⟨_, e9, CC_err I (by decide)⟩
    · exact absurd (innx hn ex' hc') n1

set_option maxHeartbeats 400000 in
theorem S_stands (l : Launch) (hls : l.stackTraces = false) {M : Mm} (I : INV M) (x1 : Int32) : Cw l yL_stands wsL_stands rmL_stands (fun B => [.ref (B + 0), .int x1, .ref (B + 717)]) M (N9 CB l yX9_stands wsX9_stands rmX9_stands (fun B => [.ref (B + 709), .int x1])) := by
  obtain ⟨h, L, i1, i2, i3, i4, i5, i6⟩ := id I
  obtain ⟨t, p, n, hv, hh, z⟩ := id i1
  have hn := hv.2.2.2.2.2.1
  have e75 := hv.2.2.2.2.2.2.1
  have ht := hv.1
  have h74 := hv.2.1
  have hne := hv.2.2.2.2.2.2.2.1
  have e5 : M 1 5 = nI n := hh.2.2.2.2.2.2.1.1.trans e75
  have e19 : M 1 9 = nI t := hh.2.2.2.2.2.2.1.2.2.2.2.trans h74
  refine Cw.imp (kL_stands l x1 (kX8_stands l hls e5 hn x1) (fun B v u ⟨c, _, _, e, _⟩ => ⟨_, e⟩) (fun E u q => q.1)) (fun k o u h8 => ?_)
  rcases h8 with ⟨rfl, B0, v0, ⟨c, hc, ex, e, eu⟩, ho⟩ | ⟨rfl, q⟩
  · cases e
    obtain rfl := eu.symm
    refine ⟨_, kX9_stands l e75 hn _, fun B v u2 h9 => ?_⟩
    rcases h9 with ⟨n1, -⟩ | ⟨c', hc', ex', e9, e8⟩
    · exact absurd (isNx hn ex hc) n1
    · subst e8
      refine ⟨_, e9, CB_ask I ?_⟩
      rw [ho]
      refine congrArg bL ?_
      obtain rfl := sameN (by omega) (by omega) ex ex'
      exact std_eq hh.2.2.2.2.2.2.2 hc
  · obtain ⟨-, n1, eu⟩ := q
    obtain rfl := eu.symm
    refine ⟨_, kX9_stands l e75 hn _, fun B v u2 h9 => ?_⟩
    rcases h9 with ⟨-, e9, e8⟩ | ⟨c', hc', ex', e9, e8⟩
    · subst e8; exact ⟨_, e9, CB_err I (by decide)⟩
    · exact absurd (innx hn ex' hc') n1

set_option maxHeartbeats 400000 in
theorem S_finesOf (l : Launch) (hls : l.stackTraces = false) {M : Mm} (I : INV M) (x1 : Int32) (x2 : Int32) : Cw l yL_finesOf wsL_finesOf rmL_finesOf (fun B => [.ref (B + 0), .int x1, .int x2, .ref (B + 717)]) M (N9 CC l yX9_finesOf wsX9_finesOf rmX9_finesOf (fun B => [.ref (B + 709), .int x1, .int x2])) := by
  obtain ⟨h, L, i1, i2, i3, i4, i5, i6⟩ := id I
  obtain ⟨t, p, n, hv, hh, z⟩ := id i1
  have hn := hv.2.2.2.2.2.1
  have e75 := hv.2.2.2.2.2.2.1
  have ht := hv.1
  have h74 := hv.2.1
  have hne := hv.2.2.2.2.2.2.2.1
  have e5 : M 1 5 = nI n := hh.2.2.2.2.2.2.1.1.trans e75
  have e19 : M 1 9 = nI t := hh.2.2.2.2.2.2.1.2.2.2.2.trans h74
  refine Cw.imp (kL_finesOf l x1 x2 (kX8_finesOf l hls e5 hn x1 x2) (fun B v u ⟨c, _, _, e, _⟩ => ⟨_, e⟩) (fun E u q => q.1)) (fun k o u h8 => ?_)
  rcases h8 with ⟨rfl, B0, v0, ⟨c, hc, ex, e, eu⟩, ho⟩ | ⟨rfl, q⟩
  · cases e
    obtain rfl := eu.symm
    refine ⟨_, kX9_finesOf l e75 hn _ _, fun B v u2 h9 => ?_⟩
    rcases h9 with ⟨n1, -⟩ | ⟨c', hc', ex', e9, e8⟩
    · exact absurd (in7x ex hc) n1
    · subst e8
      refine ⟨_, e9, CC_ask I ?_⟩
      rw [ho]
      refine congrArg Int32.toInt64 ?_
      obtain rfl := sameN (by omega) (by omega) ex ex'
      obtain ⟨-, -, -, -, q4, q5⟩ := hh.1 c hc
      by_cases w : x2 = 0
      · rw [if_pos w, if_pos w, ex]; exact fin_eq hh.2.2.2.2.2.2.2 _ n (Nat.le_refl _)
      · rw [if_neg w, if_neg w, q4, q5]
  · obtain ⟨-, n1, eu⟩ := q
    obtain rfl := eu.symm
    refine ⟨_, kX9_finesOf l e75 hn _ _, fun B v u2 h9 => ?_⟩
    rcases h9 with ⟨-, e9, e8⟩ | ⟨c', hc', ex', e9, e8⟩
    · subst e8; exact ⟨_, e9, CC_err I (by decide)⟩
    · exact absurd (in7x ex' hc') n1
