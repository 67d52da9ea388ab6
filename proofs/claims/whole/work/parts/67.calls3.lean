/-! the changes: recorded on both sides -/
theorem CC_set {M u u2 : Mm} {h L : Nat} {row : Nat → Int32} {b : Int32} {o : Int64} (i1 : Rel M 1 (M 710)) (i2 : HR M (M 711) h) (i4 : SR M (M 712) (M 713)) (i5 : PRl M (M 715) L) (i6 : M 709 8 = nI L) (hu : ∀ x, 71 ≤ x → u x = recM M h 1 x) (hge : ∀ x, 563 ≤ x → u x = M x) (R : Rel u 1 row) (e8 : u2 = va_up (rcM (thM u 0) h) 710 row) (ho : o = b.toInt64) : CC u2 0 b o := by
  subst e8
  exact ⟨rfl, fun _ => ho, INV_set i1 i2 i4 i5 i6 hge (fun x q1 q2 => hu x (by omega)) R⟩
theorem CB_set {M u u2 : Mm} {h L : Nat} {row : Nat → Int32} {b : Int32} {o : Int64} (i1 : Rel M 1 (M 710)) (i2 : HR M (M 711) h) (i4 : SR M (M 712) (M 713)) (i5 : PRl M (M 715) L) (i6 : M 709 8 = nI L) (hu : ∀ x, 71 ≤ x → u x = recM M h 1 x) (hge : ∀ x, 563 ≤ x → u x = M x) (R : Rel u 1 row) (e8 : u2 = va_up (rcM (thM u 0) h) 710 row) (ho : o = bL b) : CB u2 0 b o := by
  subst e8
  exact ⟨rfl, fun _ => ho, INV_set i1 i2 i4 i5 i6 hge (fun x q1 q2 => hu x (by omega)) R⟩

set_option maxHeartbeats 400000 in
theorem S_setChimney (l : Launch) (hls : l.stackTraces = false) {M : Mm} (I : INV M) (x1 : Int32) (x2 : Int32) (x3 : Int32) (x4 : Int32) (x5 : Int32) : Cw l yL_setChimney wsL_setChimney rmL_setChimney (fun B => [.ref (B + 0), .int x1, .int x2, .int x3, .int x4, .int x5, .ref (B + 717)]) M (N9 CC l yX9_setChimney wsX9_setChimney rmX9_setChimney (fun B => [.ref (B + 709), .int x1, .int x2, .int x3, .int x4, .int x5])) := by
  obtain ⟨h, L, i1, i2, i3, i4, i5, i6⟩ := id I
  obtain ⟨t, p, n, hv, hh, z⟩ := id i1
  have hn := hv.2.2.2.2.2.1
  have e75 := hv.2.2.2.2.2.2.1
  have ht := hv.1
  have h74 := hv.2.1
  have hne := hv.2.2.2.2.2.2.2.1
  have e5 : M 1 5 = nI n := hh.2.2.2.2.2.2.1.1.trans e75
  have e19 : M 1 9 = nI t := hh.2.2.2.2.2.2.1.2.2.2.2.trans h74
  have hS := i2.2.2.1
  have hR0 : Rel (recM M h 1) 1 (M 710) := Rel_mem (fun x q1 q2 => recM_o (by omega) hS) i1
  have ro : ∀ x, x < 141 ∨ 563 ≤ x → recM M h 1 x = M x := fun x hx => recM_o hx hS
  refine Cw.imp (kL_setChimney l x1 x2 x3 x4 x5 (kX8_setChimney l hls (h := h) i2.2.2.1 i2.1 i2.2.1 x1 x2 x3 x4 x5) (fun B v u ⟨c, _, _, _, e, _⟩ => ⟨_, e⟩) (fun E u q => q.elim (fun w => Or.inl w.1) (fun w => Or.inr w.1))) (fun k o u h8 => ?_)
  rcases h8 with ⟨rfl, B0, v0, ⟨c, hc, ex, hy, e, eu⟩, ho⟩ | ⟨rfl, q | q⟩ | ⟨rfl, q | q⟩
  · cases e
    have hu : ∀ x, 71 ≤ x → u x = recM M h 1 x := fun x hx => by rw [eu]; exact (va_up_ne _ _ (by unfold chP; omega))
    have hge : ∀ x, 563 ≤ x → u x = M x := fun x hx => (hu x (by omega)).trans (ro x (by omega))
    have hu9 : u 709 = M 709 := hge 709 (by omega)
    have hu10 : u 710 = M 710 := hge 710 (by omega)
    have r710 : rcM (thM u 0) h 710 = M 710 := hu10
    have hR : Rel u 1 (upd (upd (upd (upd (M 710) (0 + c) x2) (8 + c) x3) (16 + c) x4) (24 + c) x5) := by rw [eu]; exact Rel_chm hc hy.2.2.1 hy.2.2.2 hR0
    refine ⟨_, kX9_setChimney l (s := h) i2.1 (by rw [hu9]; exact i3) _ _ _ _ _, fun B v u2 h9 => ?_⟩
    rcases h9 with ⟨n1, -⟩ | ⟨-, n2, -⟩ | ⟨c', hc', ex', hy', e9, e8⟩
    · exact absurd (in7x ex hc) n1
    · exact absurd hy n2
    · obtain rfl := sameN (by omega) (by omega) ex ex'
      rw [r710] at e8 e9
      refine ⟨_, e9, CC_set i1 i2 i4 i5 i6 hu hge hR e8 ?_⟩
      rw [ho]
      refine congrArg Int32.toInt64 ?_
      obtain ⟨t2, p2, n2, hv2, hh2, z2⟩ := hR
      have e9t : u 1 9 = nI t2 := hh2.2.2.2.2.2.2.1.2.2.2.2.trans hv2.2.1
      rw [← eu, e9t, hv2.2.1]
      exact Rl_sh hh2 z2 hc (by have := hv2.1; omega)
  · obtain ⟨-, n1, eu⟩ := q
    obtain rfl := eu.symm
    refine ⟨_, kX9_setChimney l (s := h) i2.1 i3 _ _ _ _ _, fun B v u2 h9 => ?_⟩
    rcases h9 with ⟨-, e9, e8⟩ | ⟨r1, -⟩ | ⟨c', hc', ex', hy', e9, e8⟩
    · subst e8; exact ⟨_, e9, CC_err I (by decide)⟩
    · exact absurd r1 n1
    · exact absurd (in7x ex' hc') n1
  · exact absurd q.1 n_IA
  · exact absurd q.1 n_AI
  · obtain ⟨-, r1, n2, eu⟩ := q
    obtain rfl := eu.symm
    refine ⟨_, kX9_setChimney l (s := h) i2.1 i3 _ _ _ _ _, fun B v u2 h9 => ?_⟩
    rcases h9 with ⟨n1, -⟩ | ⟨-, -, e9, e8⟩ | ⟨c', hc', ex', hy', e9, e8⟩
    · exact absurd r1 n1
    · subst e8; exact ⟨_, e9, CC_err I (by decide)⟩
    · exact absurd hy' n2

set_option maxHeartbeats 400000 in
theorem S_setGrey (l : Launch) (hls : l.stackTraces = false) {M : Mm} (I : INV M) (x1 : Int32) (x2 : Int32) : Cw l yL_setGrey wsL_setGrey rmL_setGrey (fun B => [.ref (B + 0), .int x1, .int x2, .ref (B + 717)]) M (N9 CC l yX9_setGrey wsX9_setGrey rmX9_setGrey (fun B => [.ref (B + 709), .int x1, .int x2])) := by
  obtain ⟨h, L, i1, i2, i3, i4, i5, i6⟩ := id I
  obtain ⟨t, p, n, hv, hh, z⟩ := id i1
  have hn := hv.2.2.2.2.2.1
  have e75 := hv.2.2.2.2.2.2.1
  have ht := hv.1
  have h74 := hv.2.1
  have hne := hv.2.2.2.2.2.2.2.1
  have e5 : M 1 5 = nI n := hh.2.2.2.2.2.2.1.1.trans e75
  have e19 : M 1 9 = nI t := hh.2.2.2.2.2.2.1.2.2.2.2.trans h74
  have hS := i2.2.2.1
  have hR0 : Rel (recM M h 1) 1 (M 710) := Rel_mem (fun x q1 q2 => recM_o (by omega) hS) i1
  have ro : ∀ x, x < 141 ∨ 563 ≤ x → recM M h 1 x = M x := fun x hx => recM_o hx hS
  refine Cw.imp (kL_setGrey l x1 x2 (kX8_setGrey l hls (h := h) i2.2.2.1 i2.1 i2.2.1 x1 x2) (fun B v u ⟨_, e, _⟩ => ⟨_, e⟩) (fun E u q => q.1)) (fun k o u h8 => ?_)
  rcases h8 with ⟨rfl, B0, v0, ⟨hy, e, eu⟩, ho⟩ | ⟨rfl, q⟩
  · cases e
    have hu : ∀ x, 71 ≤ x → u x = recM M h 1 x := fun x hx => by rw [eu]; exact (va_up_ne _ _ (by omega))
    have hge : ∀ x, 563 ≤ x → u x = M x := fun x hx => (hu x (by omega)).trans (ro x (by omega))
    have hu9 : u 709 = M 709 := hge 709 (by omega)
    have hu10 : u 710 = M 710 := hge 710 (by omega)
    have r710 : rcM (thM u 0) h 710 = M 710 := hu10
    obtain ⟨c, hc23, ex⟩ := ofk (n := 23) (by decide) hy.1
    have hc : c < 24 := by omega
    have hR : Rel u 1 (upd (M 710) (32 + c) x2) := by rw [eu, ex]; exact Rel_grey hc hR0
    refine ⟨_, kX9_setGrey l (s := h) i2.1 (by rw [hu9]; exact i3) _ _, fun B v u2 h9 => ?_⟩
    rcases h9 with ⟨n1, -⟩ | ⟨c', hc', ex', hy', e9, e8⟩
    · exact absurd hy n1
    · obtain rfl := sameN (by omega) (by omega) ex ex'
      rw [r710] at e8 e9
      refine ⟨_, e9, CC_set i1 i2 i4 i5 i6 hu hge hR e8 ?_⟩
      rw [ho]
      refine congrArg Int32.toInt64 ?_
      rw [ex, gyF_k _ hc, ro _ (by omega)]
      exact hh.2.2.2.2.1 c hc
  · obtain ⟨-, n1, eu⟩ := q
    obtain rfl := eu.symm
    refine ⟨_, kX9_setGrey l (s := h) i2.1 i3 _ _, fun B v u2 h9 => ?_⟩
    rcases h9 with ⟨-, e9, e8⟩ | ⟨c', hc', ex', hy', e9, e8⟩
    · subst e8; exact ⟨_, e9, CC_err I (by decide)⟩
    · exact absurd ⟨by rw [ex']; exact in_k (n := 23) (by omega) (by decide), hy'⟩ n1

set_option maxHeartbeats 400000 in
theorem S_watch (l : Launch) (hls : l.stackTraces = false) {M : Mm} (I : INV M) (x1 : Int32) (x2 : Int32) : Cw l yL_watch wsL_watch rmL_watch (fun B => [.ref (B + 0), .int x1, .int x2, .ref (B + 717)]) M (N9 CC l yX9_watch wsX9_watch rmX9_watch (fun B => [.ref (B + 709), .int x1, .int x2])) := by
  obtain ⟨h, L, i1, i2, i3, i4, i5, i6⟩ := id I
  obtain ⟨t, p, n, hv, hh, z⟩ := id i1
  have hn := hv.2.2.2.2.2.1
  have e75 := hv.2.2.2.2.2.2.1
  have ht := hv.1
  have h74 := hv.2.1
  have hne := hv.2.2.2.2.2.2.2.1
  have e5 : M 1 5 = nI n := hh.2.2.2.2.2.2.1.1.trans e75
  have e19 : M 1 9 = nI t := hh.2.2.2.2.2.2.1.2.2.2.2.trans h74
  have hS := i2.2.2.1
  have hR0 : Rel (recM M h 1) 1 (M 710) := Rel_mem (fun x q1 q2 => recM_o (by omega) hS) i1
  have ro : ∀ x, x < 141 ∨ 563 ≤ x → recM M h 1 x = M x := fun x hx => recM_o hx hS
  refine Cw.imp (kL_watch l x1 x2 (kX8_watch l hls (h := h) i2.2.2.1 i2.1 i2.2.1 x1 x2) (fun B v u ⟨c, _, _, _, e, _⟩ => ⟨_, e⟩) (fun E u q => q.elim (fun w => Or.inl w.1) (fun w => Or.inr w.1))) (fun k o u h8 => ?_)
  rcases h8 with ⟨rfl, B0, v0, ⟨c, hc, ex, hy, e, eu⟩, ho⟩ | ⟨rfl, q | q⟩ | ⟨rfl, q | q⟩
  · cases e
    have hu : ∀ x, 71 ≤ x → u x = recM M h 1 x := fun x hx => by rw [eu]; exact (va_up_ne _ _ (by unfold obP; omega))
    have hge : ∀ x, 563 ≤ x → u x = M x := fun x hx => (hu x (by omega)).trans (ro x (by omega))
    have hu9 : u 709 = M 709 := hge 709 (by omega)
    have hu10 : u 710 = M 710 := hge 710 (by omega)
    have r710 : rcM (thM u 0) h 710 = M 710 := hu10
    have hR : Rel u 1 (upd (M 710) (62 + c) x2) := by rw [eu]; exact Rel_watch hc hy hR0
    refine ⟨_, kX9_watch l (s := h) i2.1 (by rw [hu9]; exact i3) _ _, fun B v u2 h9 => ?_⟩
    rcases h9 with ⟨n1, -⟩ | ⟨-, n2, -⟩ | ⟨c', hc', ex', hy', e9, e8⟩
    · exact absurd (inOx ex hc) n1
    · exact absurd hy n2
    · obtain rfl := sameN (by omega) (by omega) ex ex'
      rw [r710] at e8 e9
      refine ⟨_, e9, CC_set i1 i2 i4 i5 i6 hu hge hR e8 ?_⟩
      rw [ho]
      refine congrArg Int32.toInt64 ?_
      rw [ro _ (by unfold obP; omega)]
      exact (hh.2.2.2.1 c hc).1
  · obtain ⟨-, n1, eu⟩ := q
    obtain rfl := eu.symm
    refine ⟨_, kX9_watch l (s := h) i2.1 i3 _ _, fun B v u2 h9 => ?_⟩
    rcases h9 with ⟨-, e9, e8⟩ | ⟨r1, -⟩ | ⟨c', hc', ex', hy', e9, e8⟩
    · subst e8; exact ⟨_, e9, CC_err I (by decide)⟩
    · exact absurd r1 n1
    · exact absurd (inOx ex' hc') n1
  · exact absurd q.1 n_IA
  · exact absurd q.1 n_AI
  · obtain ⟨-, r1, n2, eu⟩ := q
    obtain rfl := eu.symm
    refine ⟨_, kX9_watch l (s := h) i2.1 i3 _ _, fun B v u2 h9 => ?_⟩
    rcases h9 with ⟨n1, -⟩ | ⟨-, -, e9, e8⟩ | ⟨c', hc', ex', hy', e9, e8⟩
    · exact absurd r1 n1
    · subst e8; exact ⟨_, e9, CC_err I (by decide)⟩
    · exact absurd hy' n2

set_option maxHeartbeats 400000 in
theorem S_setBias (l : Launch) (hls : l.stackTraces = false) {M : Mm} (I : INV M) (x1 : Int32) (x2 : Int32) : Cw l yL_setBias wsL_setBias rmL_setBias (fun B => [.ref (B + 0), .int x1, .int x2, .ref (B + 717)]) M (N9 CC l yX9_setBias wsX9_setBias rmX9_setBias (fun B => [.ref (B + 709), .int x1, .int x2])) := by
  obtain ⟨h, L, i1, i2, i3, i4, i5, i6⟩ := id I
  obtain ⟨t, p, n, hv, hh, z⟩ := id i1
  have hn := hv.2.2.2.2.2.1
  have e75 := hv.2.2.2.2.2.2.1
  have ht := hv.1
  have h74 := hv.2.1
  have hne := hv.2.2.2.2.2.2.2.1
  have e5 : M 1 5 = nI n := hh.2.2.2.2.2.2.1.1.trans e75
  have e19 : M 1 9 = nI t := hh.2.2.2.2.2.2.1.2.2.2.2.trans h74
  have hS := i2.2.2.1
  have hR0 : Rel (recM M h 1) 1 (M 710) := Rel_mem (fun x q1 q2 => recM_o (by omega) hS) i1
  have ro : ∀ x, x < 141 ∨ 563 ≤ x → recM M h 1 x = M x := fun x hx => recM_o hx hS
  refine Cw.imp (kL_setBias l x1 x2 (kX8_setBias l hls (h := h) i2.2.2.1 i2.1 i2.2.1 x1 x2) (fun B v u ⟨c, _, _, _, e, _⟩ => ⟨_, e⟩) (fun E u q => q.elim (fun w => Or.inl w.1) (fun w => Or.inr w.1))) (fun k o u h8 => ?_)
  rcases h8 with ⟨rfl, B0, v0, ⟨c, hc, ex, hy, e, eu⟩, ho⟩ | ⟨rfl, q | q⟩ | ⟨rfl, q | q⟩
  · cases e
    have hu : ∀ x, 71 ≤ x → u x = recM M h 1 x := fun x hx => by rw [eu]; exact (va_up_ne _ _ (by unfold obP; omega))
    have hge : ∀ x, 563 ≤ x → u x = M x := fun x hx => (hu x (by omega)).trans (ro x (by omega))
    have hu9 : u 709 = M 709 := hge 709 (by omega)
    have hu10 : u 710 = M 710 := hge 710 (by omega)
    have r710 : rcM (thM u 0) h 710 = M 710 := hu10
    have hR : Rel u 1 (upd (M 710) (56 + c) x2) := by rw [eu]; exact Rel_bias hc hR0
    refine ⟨_, kX9_setBias l (s := h) i2.1 (by rw [hu9]; exact i3) _ _, fun B v u2 h9 => ?_⟩
    rcases h9 with ⟨n1, -⟩ | ⟨-, n2, -⟩ | ⟨c', hc', ex', hy', e9, e8⟩
    · exact absurd (inOx ex hc) n1
    · exact absurd hy n2
    · obtain rfl := sameN (by omega) (by omega) ex ex'
      rw [r710] at e8 e9
      refine ⟨_, e9, CC_set i1 i2 i4 i5 i6 hu hge hR e8 ?_⟩
      rw [ho]
      refine congrArg Int32.toInt64 ?_
      rw [ro _ (by unfold obP; omega), (hh.2.2.2.1 c hc).2.1]
  · obtain ⟨-, n1, eu⟩ := q
    obtain rfl := eu.symm
    refine ⟨_, kX9_setBias l (s := h) i2.1 i3 _ _, fun B v u2 h9 => ?_⟩
    rcases h9 with ⟨-, e9, e8⟩ | ⟨r1, -⟩ | ⟨c', hc', ex', hy', e9, e8⟩
    · subst e8; exact ⟨_, e9, CC_err I (by decide)⟩
    · exact absurd r1 n1
    · exact absurd (inOx ex' hc') n1
  · exact absurd q.1 n_IA
  · exact absurd q.1 n_AI
  · obtain ⟨-, r1, n2, eu⟩ := q
    obtain rfl := eu.symm
    refine ⟨_, kX9_setBias l (s := h) i2.1 i3 _ _, fun B v u2 h9 => ?_⟩
    rcases h9 with ⟨n1, -⟩ | ⟨-, -, e9, e8⟩ | ⟨c', hc', ex', hy', e9, e8⟩
    · exact absurd r1 n1
    · subst e8; exact ⟨_, e9, CC_err I (by decide)⟩
    · exact absurd hy' n2

set_option maxHeartbeats 400000 in
theorem S_setLimit (l : Launch) (hls : l.stackTraces = false) {M : Mm} (I : INV M) (x1 : Int32) (x2 : Int32) : Cw l yL_setLimit wsL_setLimit rmL_setLimit (fun B => [.ref (B + 0), .int x1, .int x2, .ref (B + 717)]) M (N9 CC l yX9_setLimit wsX9_setLimit rmX9_setLimit (fun B => [.ref (B + 709), .int x1, .int x2])) := by
  obtain ⟨h, L, i1, i2, i3, i4, i5, i6⟩ := id I
  obtain ⟨t, p, n, hv, hh, z⟩ := id i1
  have hn := hv.2.2.2.2.2.1
  have e75 := hv.2.2.2.2.2.2.1
  have ht := hv.1
  have h74 := hv.2.1
  have hne := hv.2.2.2.2.2.2.2.1
  have e5 : M 1 5 = nI n := hh.2.2.2.2.2.2.1.1.trans e75
  have e19 : M 1 9 = nI t := hh.2.2.2.2.2.2.1.2.2.2.2.trans h74
  have hS := i2.2.2.1
  have hR0 : Rel (recM M h 1) 1 (M 710) := Rel_mem (fun x q1 q2 => recM_o (by omega) hS) i1
  have ro : ∀ x, x < 141 ∨ 563 ≤ x → recM M h 1 x = M x := fun x hx => recM_o hx hS
  refine Cw.imp (kL_setLimit l x1 x2 (kX8_setLimit l hls (h := h) i2.2.2.1 i2.1 i2.2.1 x1 x2) (fun B v u ⟨_, e, _⟩ => ⟨_, e⟩) (fun E u q => q.1)) (fun k o u h8 => ?_)
  rcases h8 with ⟨rfl, B0, v0, ⟨hy, e, eu⟩, ho⟩ | ⟨rfl, q⟩
  · cases e
    have hu : ∀ x, 71 ≤ x → u x = recM M h 1 x := fun x hx => by rw [eu]; exact (va_up_ne _ _ (by omega))
    have hge : ∀ x, 563 ≤ x → u x = M x := fun x hx => (hu x (by omega)).trans (ro x (by omega))
    have hu9 : u 709 = M 709 := hge 709 (by omega)
    have hu10 : u 710 = M 710 := hge 710 (by omega)
    have r710 : rcM (thM u 0) h 710 = M 710 := hu10
    have hR : Rel u 1 (upd (upd (M 710) 71 x1) 72 x2) := by rw [eu]; exact Rel_limp hy.1 hy.2 hR0
    refine ⟨_, kX9_setLimit l (s := h) i2.1 (by rw [hu9]; exact i3) _ _, fun B v u2 h9 => ?_⟩
    rcases h9 with ⟨n1, -⟩ | ⟨hy', e9, e8⟩
    · exact absurd hy n1
    · rw [r710] at e8 e9
      refine ⟨_, e9, CC_set i1 i2 i4 i5 i6 hu hge hR e8 ?_⟩
      rw [ho]
      refine congrArg Int32.toInt64 ?_
      rw [ro _ (by omega)]
      exact hh.2.2.2.2.2.2.1.2.1
  · obtain ⟨-, n1, eu⟩ := q
    obtain rfl := eu.symm
    refine ⟨_, kX9_setLimit l (s := h) i2.1 i3 _ _, fun B v u2 h9 => ?_⟩
    rcases h9 with ⟨-, e9, e8⟩ | ⟨hy', e9, e8⟩
    · subst e8; exact ⟨_, e9, CC_err I (by decide)⟩
    · exact absurd hy' n1

set_option maxHeartbeats 400000 in
theorem S_pass (l : Launch) (hls : l.stackTraces = false) {M : Mm} (I : INV M) (x1 : Int32) : Cw l yL_pass wsL_pass rmL_pass (fun B => [.ref (B + 0), .int x1, .ref (B + 717)]) M (N9 CC l yX9_pass wsX9_pass rmX9_pass (fun B => [.ref (B + 709), .int x1])) := by
  obtain ⟨h, L, i1, i2, i3, i4, i5, i6⟩ := id I
  obtain ⟨t, p, n, hv, hh, z⟩ := id i1
  have hn := hv.2.2.2.2.2.1
  have e75 := hv.2.2.2.2.2.2.1
  have ht := hv.1
  have h74 := hv.2.1
  have hne := hv.2.2.2.2.2.2.2.1
  have e5 : M 1 5 = nI n := hh.2.2.2.2.2.2.1.1.trans e75
  have e19 : M 1 9 = nI t := hh.2.2.2.2.2.2.1.2.2.2.2.trans h74
  have hS := i2.2.2.1
  have hR0 : Rel (recM M h 1) 1 (M 710) := Rel_mem (fun x q1 q2 => recM_o (by omega) hS) i1
  have ro : ∀ x, x < 141 ∨ 563 ≤ x → recM M h 1 x = M x := fun x hx => recM_o hx hS
  refine Cw.imp (kL_pass l x1 (kX8_pass l hls (h := h) i2.2.2.1 i2.1 i2.2.1 (Rel_CJ i1) x1) (fun B v u ⟨c, _, _, _, e, _⟩ => ⟨_, e⟩) (fun E u q => q.1)) (fun k o u h8 => ?_)
  rcases h8 with ⟨rfl, B0, v0, ⟨c, hc1, hc2, ex, e, eu⟩, ho⟩ | ⟨rfl, q⟩
  · cases e
    have hu : ∀ x, 71 ≤ x → u x = recM M h 1 x := fun x hx => by rw [eu]; exact (itF_o (Or.inr (by omega)) c)
    have hge : ∀ x, 563 ≤ x → u x = M x := fun x hx => (hu x (by omega)).trans (ro x (by omega))
    have hu9 : u 709 = M 709 := hge 709 (by omega)
    have hu10 : u 710 = M 710 := hge 710 (by omega)
    have r710 : rcM (thM u 0) h 710 = M 710 := hu10
    have hR : Rel u 1 (psR (M 710) c) := by rw [eu]; exact Rel_it hR0 c
    refine ⟨_, kX9_pass l (s := h) i2.1 (by rw [hu9]; exact i3) (by rw [hu10]; exact Rel_RW i1) _, fun B v u2 h9 => ?_⟩
    rcases h9 with ⟨n1, -⟩ | ⟨c', hc1', hc2', ex', e9, e8⟩
    · exact absurd (inrx (n := 200) ex hc1 hc2 (by decide)) n1
    · obtain rfl := sameN (by omega) (by omega) ex ex'
      rw [r710] at e8 e9
      refine ⟨_, e9, CC_set i1 i2 i4 i5 i6 hu hge hR e8 ?_⟩
      rw [ho]
      refine congrArg Int32.toInt64 ?_
      obtain ⟨t2, p2, n2, hv2, hh2, z2⟩ := hR
      rw [← eu, hh2.2.2.2.2.2.2.1.1, ro 1 (by omega), hh.2.2.2.2.2.2.1.1]
  · obtain ⟨-, n1, eu⟩ := q
    obtain rfl := eu.symm
    refine ⟨_, kX9_pass l (s := h) i2.1 i3 (Rel_RW i1) _, fun B v u2 h9 => ?_⟩
    rcases h9 with ⟨-, e9, e8⟩ | ⟨c', hc1', hc2', ex', e9, e8⟩
    · subst e8; exact ⟨_, e9, CC_err I (by decide)⟩
    · exact absurd (inrx (n := 200) ex' hc1' hc2' (by decide)) n1

set_option maxHeartbeats 400000 in
theorem S_appeal (l : Launch) (hls : l.stackTraces = false) {M : Mm} (I : INV M) (x1 : Int32) : Cw l yL_appeal wsL_appeal rmL_appeal (fun B => [.ref (B + 0), .int x1, .ref (B + 717)]) M (N9 CB l yX9_appeal wsX9_appeal rmX9_appeal (fun B => [.ref (B + 709), .int x1])) := by
  obtain ⟨h, L, i1, i2, i3, i4, i5, i6⟩ := id I
  obtain ⟨t, p, n, hv, hh, z⟩ := id i1
  have hn := hv.2.2.2.2.2.1
  have e75 := hv.2.2.2.2.2.2.1
  have ht := hv.1
  have h74 := hv.2.1
  have hne := hv.2.2.2.2.2.2.2.1
  have e5 : M 1 5 = nI n := hh.2.2.2.2.2.2.1.1.trans e75
  have e19 : M 1 9 = nI t := hh.2.2.2.2.2.2.1.2.2.2.2.trans h74
  have hS := i2.2.2.1
  have hR0 : Rel (recM M h 1) 1 (M 710) := Rel_mem (fun x q1 q2 => recM_o (by omega) hS) i1
  have ro : ∀ x, x < 141 ∨ 563 ≤ x → recM M h 1 x = M x := fun x hx => recM_o hx hS
  have hC : ∀ e, e < n → (M 710 (92 + e)).toNatClampNeg < 8 ∧ M 710 (92 + e) = nI (M 710 (92 + e)).toNatClampNeg := fun e he => by
    obtain ⟨c, hc, ec⟩ := z.2.2.2.1 e he
    rw [ec, nI_clamp (by omega)]; exact ⟨hc, rfl⟩
  refine Cw.imp (kL_appeal l x1 (kX8_appeal l hls (h := h) i2.2.2.1 i2.1 i2.2.1 e5 hn (Rl_nch hh z) x1) (fun B v u ⟨c, _, _, _, e, _⟩ => ⟨_, e⟩) (fun E u q => q.elim (fun w => Or.inl w.1) (fun w => Or.inr w.1))) (fun k o u h8 => ?_)
  rcases h8 with ⟨rfl, B0, v0, ⟨a, ha, ex, h4, e, eu⟩, ho⟩ | ⟨rfl, q | q⟩ | ⟨rfl, q | q⟩
  · cases e
    obtain ⟨c, hc, ec⟩ := z.2.2.2.1 a ha
    obtain ⟨q0, q1, q4, qw⟩ := hh.2.2.2.2.2.2.2 a ha
    have h0 : M 710 (132 + a) = 0 := by
      rcases q4 with ⟨-, -, x⟩ | ⟨x, -, -⟩ | ⟨x, -, -⟩
      · exact x
      · rw [h4] at x; exact absurd x (by decide)
      · rw [h4] at x; exact absurd x (by decide)
    have hcl : (M (noP 1 a) 0).toNatClampNeg = c := by rw [q0, ec, nI_clamp (by omega)]
    have hcl9 : (M 710 (92 + a)).toNatClampNeg = c := by rw [ec, nI_clamp (by omega)]
    rw [hcl] at eu
    have hA := Rel_appeal (M := recM M h 1) e75 hn ha hc h0 hR0
    have hu : ∀ x, 71 ≤ x → u x = recM M h 1 x := fun x hx => by rw [eu]; exact deF_o (by omega) hc (Or.inr (by omega))
    have hge : ∀ x, 563 ≤ x → u x = M x := fun x hx => (hu x (by omega)).trans (ro x (by omega))
    have hu9 : u 709 = M 709 := hge 709 (by omega)
    have hu10 : u 710 = M 710 := hge 710 (by omega)
    have r710 : rcM (thM u 0) h 710 = M 710 := hu10
    have hR : Rel u 1 (daR (M 710) a c) := by rw [eu]; exact hA.1
    refine ⟨_, kX9_appeal l (s := h) i2.1 (by rw [hu9]; exact i3) (n := n) (by rw [hu10]; exact e75) hn (by rw [hu10]; exact hC) _, fun B v u2 h9 => ?_⟩
    rcases h9 with ⟨n1, -⟩ | ⟨a', ha', ex', w⟩
    · exact absurd (isNx hn ex ha) n1
    · obtain rfl := sameN (by omega) (by omega) ex ex'
      rw [hu10] at w
      rcases w with ⟨w1, -⟩ | ⟨-, e9, e8⟩
      · rw [h0] at w1; exact absurd w1 (by decide)
      · rw [r710, hcl9] at e8
        rw [r710] at e9
        refine ⟨_, e9, CB_set i1 i2 i4 i5 i6 hu hge hR e8 ?_⟩
        rw [ho, hcl]
        exact congrArg bL hA.2
  · obtain ⟨-, n1, eu⟩ := q
    obtain rfl := eu.symm
    refine ⟨_, kX9_appeal l (s := h) i2.1 i3 (n := n) e75 hn hC _, fun B v u2 h9 => ?_⟩
    rcases h9 with ⟨-, e9, e8⟩ | ⟨a', ha', ex', -⟩
    · subst e8; exact ⟨_, e9, CB_err I (by decide)⟩
    · exact absurd (innx hn ex' ha') n1
  · exact absurd q.1 n_IS
  · exact absurd q.1 n_SI
  · obtain ⟨-, a, ha, ex, h4, eu⟩ := q
    obtain rfl := eu.symm
    obtain ⟨q0, q1, q4, qw⟩ := hh.2.2.2.2.2.2.2 a ha
    have h0 : 0 < M 710 (132 + a) := by
      rcases q4 with ⟨x, -, -⟩ | ⟨-, -, x⟩ | ⟨-, -, x⟩
      · exact absurd x h4
      · rw [x]; decide
      · rw [x]; decide
    refine ⟨_, kX9_appeal l (s := h) i2.1 i3 (n := n) e75 hn hC _, fun B v u2 h9 => ?_⟩
    rcases h9 with ⟨n1, -⟩ | ⟨a', ha', ex', w⟩
    · exact absurd (isNx hn ex ha) n1
    · obtain rfl := sameN (by omega) (by omega) ex ex'
      rcases w with ⟨-, e9, e8⟩ | ⟨w1, -⟩
      · subst e8; exact ⟨_, e9, CB_err I (by decide)⟩
      · exact absurd h0 w1
