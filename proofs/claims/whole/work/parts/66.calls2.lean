/-! calls that change more, and calls that throw nothing -/
theorem INV_ask {M u u2 : Mm} (hu : ∀ x, (1 ≤ x ∧ x < 71) ∨ (141 ≤ x ∧ x < 563) ∨ (567 ≤ x ∧ x < 709) ∨ x = 565 ∨ 709 ≤ x → u x = M x) (hu2 : u 564 2 = M 564 2) (hV : ∀ x, x < 709 → u2 x = u x) (b0 : ∀ j, j < 1804 → u2 710 j = u 710 j) (b1 : u2 711 = u 711) (b2 : u2 712 = u 712) (b3 : u2 713 = u 713) (b4 : u2 715 = u 715) (b5 : u2 709 3 = u 709 3) (b6 : u2 709 8 = u 709 8) (I : INV M) : INV u2 :=
  INV_of (fun x q1 q2 => (hV x (by omega)).trans (hu x (by omega))) (fun x q1 q2 => (hV x (by omega)).trans (hu x (by omega))) (fun x q1 q2 => (hV x (by omega)).trans (hu x (by omega))) ((hV 565 (by omega)).trans (hu 565 (by omega))) (by rw [hV 564 (by omega)]; exact hu2) (fun j hj => by rw [b0 j hj, hu 710 (by omega)]) (b1.trans (hu 711 (by omega))) (b2.trans (hu 712 (by omega))) (b3.trans (hu 713 (by omega))) (b4.trans (hu 715 (by omega))) (by rw [b5, hu 709 (by omega)]) (by rw [b6, hu 709 (by omega)]) I
theorem CC_mk {u2 : Mm} {b : Int32} {o : Int64} (h0 : u2 709 0 = 0) (h : o = b.toInt64) (I : INV u2) : CC u2 0 b o := ⟨h0, fun _ => h, I⟩
/-- a change: the reference's row anew -/
theorem INV_set {M U : Mm} {h L : Nat} {row : Nat → Int32} (i1 : Rel M 1 (M 710)) (i2 : HR M (M 711) h) (i4 : SR M (M 712) (M 713)) (i5 : PRl M (M 715) L) (i6 : M 709 8 = nI L) (hge : ∀ x, 563 ≤ x → U x = M x) (hH : ∀ x, 141 ≤ x → x < 563 → U x = recM M h 1 x) (R : Rel U 1 row) : INV (va_up (rcM (thM U 0) h) 710 row) := by
  have e709 := hge 709 (by omega)
  have e710 := hge 710 (by omega)
  have e711 := hge 711 (by omega)
  have e564 := hge 564 (by omega)
  have e565 := hge 565 (by omega)
  obtain ⟨p1, p2, p3⟩ := i5
  refine INV_chg (U := U) (L := L) i1 i2 i4 hH (fun x q1 q2 => hge x (by omega)) (fun x hx => ?_) ?_ ?_ ?_ rfl ?_ ⟨p1, by rw [e564]; exact p2, fun j hj => ?_⟩ ?_
  · rw [va_up_ne _ _ (by omega)]
    unfold rcM thM
    rw [va_up_ne _ _ (by omega), va_up_ne _ _ (by omega), va_up_ne _ _ (by omega)]
  · show hsW (U 711) (U 710) h = _
    rw [e711, e710]
  · exact hge 712 (by omega)
  · exact hge 713 (by omega)
  · show U 709 8 = nI L
    rw [e709]; exact i6
  · rw [e565]
    show M 565 j = U 715 j
    rw [hge 715 (by omega)]; exact p3 j hj
  · rw [va_up_self]; exact R
theorem mlR_o {M : Mm} {k x : Nat} (h1 : x ≠ 709) (h2 : x ≠ 710) (h3 : x ≠ 714) : ∀ i, mlR M k i x = M x := by
  intro i
  induction i with
  | zero => exact va_up_ne _ _ h1
  | succ i ih => exact (va_up_ne _ _ h2).trans ((va_up_ne _ _ h3).trans ih)
theorem mlR_9 {M : Mm} {k : Nat} : ∀ i, mlR M k i 709 = upd (M 709) 0 0 := by
  intro i
  induction i with
  | zero => rfl
  | succ i ih =>
    show nbM (mlR M k i) (nI (5 - i)) k 709 = _
    unfold nbM
    rw [va_up_ne _ _ (by omega), va_up_ne _ _ (by omega)]; exact ih
/-- behind a call that throws nothing -/
def N8 (l : Launch) (y8 : MethodName) (ws8 : List Cond) (rm8 : Room) (y9 : MethodName) (ws9 : List Cond) (rm9 : Room) (M : Mm) : Prop := ∃ post8, Ct l y8 ws8 rm8 (fun B => [.ref (B + 0)]) M post8 ∧ ∀ B v u, post8 B v u → ∃ a, v = some (.int a) ∧ ∃ post9, Ct l y9 ws9 rm9 (fun B => [.ref (B + 709)]) u post9 ∧ ∀ B w u2, post9 B w u2 → ∃ b, w = some (.int b) ∧ a = b ∧ INV u2

set_option maxHeartbeats 400000 in
theorem S_time (l : Launch) {M : Mm} (I : INV M) : N8 l yX8_time wsX8_time rmX8_time yX9_time wsX9_time rmX9_time M := by
  obtain ⟨h, L, i1, i2, i3, i4, i5, i6⟩ := id I
  obtain ⟨t, p, n, hv, hh, z⟩ := id i1
  have hn := hv.2.2.2.2.2.1
  have e75 := hv.2.2.2.2.2.2.1
  have ht := hv.1
  have h74 := hv.2.1
  have hne := hv.2.2.2.2.2.2.2.1
  have e5 : M 1 5 = nI n := hh.2.2.2.2.2.2.1.1.trans e75
  have e19 : M 1 9 = nI t := hh.2.2.2.2.2.2.1.2.2.2.2.trans h74
  refine ⟨_, kX8_time l, fun B v u h8 => ?_⟩
  obtain ⟨e8, eu⟩ := h8
  obtain rfl := eu.symm
  refine ⟨_, e8, _, kX9_time l, fun B w u2 h9 => ?_⟩
  obtain ⟨e9, e2⟩ := h9
  subst e2
  refine ⟨_, e9, ?_, INV_th 0 I⟩
  show 96 * M 1 8 + M 1 9 = 96 * M 710 73 + M 710 74
  rw [hh.2.2.2.2.2.2.1.2.2.2.1, hh.2.2.2.2.2.2.1.2.2.2.2]

set_option maxHeartbeats 400000 in
theorem S_bestObserver (l : Launch) {M : Mm} (I : INV M) : N8 l yX8_bestObserver wsX8_bestObserver rmX8_bestObserver yX9_bestObserver wsX9_bestObserver rmX9_bestObserver M := by
  obtain ⟨h, L, i1, i2, i3, i4, i5, i6⟩ := id I
  obtain ⟨t, p, n, hv, hh, z⟩ := id i1
  have hn := hv.2.2.2.2.2.1
  have e75 := hv.2.2.2.2.2.2.1
  have ht := hv.1
  have h74 := hv.2.1
  have hne := hv.2.2.2.2.2.2.2.1
  have e5 : M 1 5 = nI n := hh.2.2.2.2.2.2.1.1.trans e75
  have e19 : M 1 9 = nI t := hh.2.2.2.2.2.2.1.2.2.2.2.trans h74
  refine ⟨_, kX8_bestObserver l, fun B v u h8 => ?_⟩
  obtain ⟨e8, eu⟩ := h8
  obtain rfl := eu.symm
  refine ⟨_, e8, _, kX9_bestObserver l, fun B w u2 h9 => ?_⟩
  obtain ⟨e9, e2⟩ := h9
  subst e2
  refine ⟨_, e9, ?_, INV_th 0 I⟩
  exact le_eq hh.2.2.2.1 3 (Nat.le_refl _)

set_option maxHeartbeats 400000 in
theorem S_notices (l : Launch) {M : Mm} (I : INV M) : N8 l yX8_notices wsX8_notices rmX8_notices yX9_notices wsX9_notices rmX9_notices M := by
  obtain ⟨h, L, i1, i2, i3, i4, i5, i6⟩ := id I
  obtain ⟨t, p, n, hv, hh, z⟩ := id i1
  have hn := hv.2.2.2.2.2.1
  have e75 := hv.2.2.2.2.2.2.1
  have ht := hv.1
  have h74 := hv.2.1
  have hne := hv.2.2.2.2.2.2.2.1
  have e5 : M 1 5 = nI n := hh.2.2.2.2.2.2.1.1.trans e75
  have e19 : M 1 9 = nI t := hh.2.2.2.2.2.2.1.2.2.2.2.trans h74
  refine ⟨_, kX8_notices l, fun B v u h8 => ?_⟩
  obtain ⟨e8, eu⟩ := h8
  obtain rfl := eu.symm
  refine ⟨_, e8, _, kX9_notices l, fun B w u2 h9 => ?_⟩
  obtain ⟨e9, e2⟩ := h9
  subst e2
  refine ⟨_, e9, ?_, INV_th 0 I⟩
  exact hh.2.2.2.2.2.2.1.1

set_option maxHeartbeats 400000 in
theorem S_worstChimney (l : Launch) {M : Mm} (I : INV M) : N8 l yX8_worstChimney wsX8_worstChimney rmX8_worstChimney yX9_worstChimney wsX9_worstChimney rmX9_worstChimney M := by
  obtain ⟨h, L, i1, i2, i3, i4, i5, i6⟩ := id I
  obtain ⟨t, p, n, hv, hh, z⟩ := id i1
  have hn := hv.2.2.2.2.2.1
  have e75 := hv.2.2.2.2.2.2.1
  have ht := hv.1
  have h74 := hv.2.1
  have hne := hv.2.2.2.2.2.2.2.1
  have e5 : M 1 5 = nI n := hh.2.2.2.2.2.2.1.1.trans e75
  have e19 : M 1 9 = nI t := hh.2.2.2.2.2.2.1.2.2.2.2.trans h74
  refine ⟨_, kX8_worstChimney l e5 hn, fun B v u h8 => ?_⟩
  obtain ⟨e8, eu⟩ := h8
  obtain rfl := eu.symm
  refine ⟨_, e8, _, kX9_worstChimney l e75 hn, fun B w u2 h9 => ?_⟩
  obtain ⟨e9, e2⟩ := h9
  subst e2
  refine ⟨_, e9, ?_, INV_th 0 I⟩
  exact congrArg Prod.fst (mf_eq hh.2.2.2.2.2.2.2 8)

set_option maxHeartbeats 400000 in
theorem S_padLength (l : Launch) {M : Mm} (I : INV M) : N8 l yX8_padLength wsX8_padLength rmX8_padLength yX9_padLength wsX9_padLength rmX9_padLength M := by
  obtain ⟨h, L, i1, i2, i3, i4, i5, i6⟩ := id I
  obtain ⟨t, p, n, hv, hh, z⟩ := id i1
  have hn := hv.2.2.2.2.2.1
  have e75 := hv.2.2.2.2.2.2.1
  have ht := hv.1
  have h74 := hv.2.1
  have hne := hv.2.2.2.2.2.2.2.1
  have e5 : M 1 5 = nI n := hh.2.2.2.2.2.2.1.1.trans e75
  have e19 : M 1 9 = nI t := hh.2.2.2.2.2.2.1.2.2.2.2.trans h74
  refine ⟨_, kX8_padLength l, fun B v u h8 => ?_⟩
  obtain ⟨e8, eu⟩ := h8
  obtain rfl := eu.symm
  refine ⟨_, e8, _, kX9_padLength l, fun B w u2 h9 => ?_⟩
  obtain ⟨e9, e2⟩ := h9
  subst e2
  refine ⟨_, e9, ?_, INV_th 0 I⟩
  exact i5.2.1.trans i6.symm

set_option maxHeartbeats 400000 in
theorem S_undoable (l : Launch) {M : Mm} (I : INV M) : N8 l yX8_undoable wsX8_undoable rmX8_undoable yX9_undoable wsX9_undoable rmX9_undoable M := by
  obtain ⟨h, L, i1, i2, i3, i4, i5, i6⟩ := id I
  obtain ⟨t, p, n, hv, hh, z⟩ := id i1
  have hn := hv.2.2.2.2.2.1
  have e75 := hv.2.2.2.2.2.2.1
  have ht := hv.1
  have h74 := hv.2.1
  have hne := hv.2.2.2.2.2.2.2.1
  have e5 : M 1 5 = nI n := hh.2.2.2.2.2.2.1.1.trans e75
  have e19 : M 1 9 = nI t := hh.2.2.2.2.2.2.1.2.2.2.2.trans h74
  refine ⟨_, kX8_undoable l, fun B v u h8 => ?_⟩
  obtain ⟨e8, eu⟩ := h8
  obtain rfl := eu.symm
  refine ⟨_, e8, _, kX9_undoable l, fun B w u2 h9 => ?_⟩
  obtain ⟨e9, e2⟩ := h9
  subst e2
  refine ⟨_, e9, ?_, INV_th 0 I⟩
  exact i2.2.1.trans i3.symm

set_option maxHeartbeats 400000 in
theorem S_wipe (l : Launch) {M : Mm} (I : INV M) : N8 l yX8_wipe wsX8_wipe rmX8_wipe yX9_wipe wsX9_wipe rmX9_wipe M := by
  obtain ⟨h, L, i1, i2, i3, i4, i5, i6⟩ := id I
  obtain ⟨t, p, n, hv, hh, z⟩ := id i1
  have hn := hv.2.2.2.2.2.1
  have e75 := hv.2.2.2.2.2.2.1
  have ht := hv.1
  have h74 := hv.2.1
  have hne := hv.2.2.2.2.2.2.2.1
  have e5 : M 1 5 = nI n := hh.2.2.2.2.2.2.1.1.trans e75
  have e19 : M 1 9 = nI t := hh.2.2.2.2.2.2.1.2.2.2.2.trans h74
  refine ⟨_, kX8_wipe l, fun B v u h8 => ?_⟩
  obtain ⟨e8, eu⟩ := h8
  obtain rfl := eu.symm
  refine ⟨_, e8, _, kX9_wipe l, fun B w u2 h9 => ?_⟩
  obtain ⟨e9, e2⟩ := h9
  subst e2
  refine ⟨_, e9, ?_, ⟨h, 0, Rel_mem (fun x q1 q2 => (va_up_ne _ _ (by omega)).trans (va_up_ne _ _ (by omega))) i1, HR_of (fun x q1 q2 => (va_up_ne _ _ (by omega)).trans (va_up_ne _ _ (by omega))) i2, i3, SR_of (fun x q1 q2 => (va_up_ne _ _ (by omega)).trans (va_up_ne _ _ (by omega))) i4, ⟨by omega, rfl, fun j hj => absurd hj (by omega)⟩, rfl⟩⟩
  exact i5.2.1.trans i6.symm

set_option maxHeartbeats 400000 in
theorem S_fault (l : Launch) {M : Mm} (I : INV M) : N8 l yX8_fault wsX8_fault rmX8_fault yX9_fault wsX9_fault rmX9_fault M := by
  obtain ⟨h, L, i1, i2, i3, i4, i5, i6⟩ := id I
  obtain ⟨t, p, n, hv, hh, z⟩ := id i1
  have hn := hv.2.2.2.2.2.1
  have e75 := hv.2.2.2.2.2.2.1
  have ht := hv.1
  have h74 := hv.2.1
  have hne := hv.2.2.2.2.2.2.2.1
  have e5 : M 1 5 = nI n := hh.2.2.2.2.2.2.1.1.trans e75
  have e19 : M 1 9 = nI t := hh.2.2.2.2.2.2.1.2.2.2.2.trans h74
  obtain ⟨f1, f2, f3, f4, -⟩ := rd_all (h := h) (U := va_up M 564 (rdF M).2) i1 i5 i6 i2.2.2.1 rfl rfl rfl
  refine ⟨_, kX8_fault l, fun B v u h8 => ?_⟩
  obtain ⟨e8, eu⟩ := h8
  subst eu
  refine ⟨_, e8, _, kX9_fault l (L := L) i5.1 i6, fun B w u2 h9 => ?_⟩
  obtain ⟨e9, e2⟩ := h9
  subst e2
  refine ⟨_, e9, f1, ?_⟩
  exact INV_ask (u := va_up M 564 (rdF M).2) (fun x hx => va_up_ne _ _ (by omega)) (f4.trans i5.2.1.symm) (fun x hx => by show va_up (thM _ 0) 709 _ x = _; unfold thM; rw [va_up_ne _ _ (by omega), va_up_ne _ _ (by omega)]) (fun j hj => rfl) rfl rfl rfl rfl f2 (f3.trans i6.symm) I

set_option maxHeartbeats 400000 in
theorem S_toWatch (l : Launch) (hls : l.stackTraces = false) {M : Mm} (I : INV M) (x1 : Int32) (x2 : Int32) : Cw l yL_toWatch wsL_toWatch rmL_toWatch (fun B => [.ref (B + 0), .int x1, .int x2, .ref (B + 717)]) M (N9 CC l yX9_toWatch wsX9_toWatch rmX9_toWatch (fun B => [.ref (B + 709), .int x1, .int x2])) := by
  obtain ⟨h, L, i1, i2, i3, i4, i5, i6⟩ := id I
  obtain ⟨t, p, n, hv, hh, z⟩ := id i1
  have hn := hv.2.2.2.2.2.1
  have e75 := hv.2.2.2.2.2.2.1
  have ht := hv.1
  have h74 := hv.2.1
  have hne := hv.2.2.2.2.2.2.2.1
  have e5 : M 1 5 = nI n := hh.2.2.2.2.2.2.1.1.trans e75
  have e19 : M 1 9 = nI t := hh.2.2.2.2.2.2.1.2.2.2.2.trans h74
  refine Cw.imp (kL_toWatch l x1 x2 (kX8_toWatch l hls ht e19 x1 x2) (fun B v u ⟨c, _, _, _, e, _⟩ => ⟨_, e⟩) (fun E u q => q.1)) (fun k o u h8 => ?_)
  rcases h8 with ⟨rfl, B0, v0, ⟨c, hc1, hc2, ex, e, eu⟩, ho⟩ | ⟨rfl, q⟩
  · cases e
    have hu : ∀ x, x ≠ 566 → u x = M x := fun x hx => by rw [eu]; exact va_up_ne _ _ hx
    have hu10 : u 710 = M 710 := hu 710 (by omega)
    refine ⟨_, kX9_toWatch l (t := t) ht (by rw [hu10]; exact h74) (by rw [hu10]; exact hne) _ _, fun B v u2 h9 => ?_⟩
    rcases h9 with ⟨n1, -⟩ | ⟨c', hc1', hc2', ex', e9, e8⟩
    · exact absurd (inrx (n := 96) ex hc1 hc2 (by decide)) n1
    · subst e8
      obtain rfl := sameN (by omega) (by omega) ex ex'
      have tb := tw_both (M := M) (N := u) (t := t) (b := min 95 (t + c - 1)) (by omega) (by rw [hu10]; exact hh) (by rw [hu10]; exact z)
      refine ⟨_, e9, CC_mk rfl ?_ ?_⟩
      · rw [ho]
        refine congrArg Int32.toInt64 ?_
        by_cases w : x2 = 0
        · rw [if_pos w]; exact tb.2
        · rw [if_neg w]; exact tb.1
      · exact INV_ask (u := u) (fun x hx => hu x (by omega)) (by rw [hu 564 (by omega)]) (fun x hx => by unfold thM; rw [va_up_ne _ _ (by omega), va_up_ne _ _ (by omega)]) (fun j hj => rfl) rfl rfl rfl rfl rfl rfl I
  · obtain ⟨-, n1, eu⟩ := q
    obtain rfl := eu.symm
    refine ⟨_, kX9_toWatch l (t := t) ht h74 hne _ _, fun B v u2 h9 => ?_⟩
    rcases h9 with ⟨-, e9, e8⟩ | ⟨c', hc1', hc2', ex', e9, e8⟩
    · subst e8; exact ⟨_, e9, CC_err I (by decide)⟩
    · exact absurd (inrx (n := 96) ex' hc1' hc2' (by decide)) n1

set_option maxHeartbeats 400000 in
theorem S_noticesIn (l : Launch) (hls : l.stackTraces = false) {M : Mm} (I : INV M) (x1 : Int32) : Cw l yL_noticesIn wsL_noticesIn rmL_noticesIn (fun B => [.ref (B + 0), .int x1, .ref (B + 717)]) M (N9 CC l yX9_noticesIn wsX9_noticesIn rmX9_noticesIn (fun B => [.ref (B + 709), .int x1])) := by
  obtain ⟨h, L, i1, i2, i3, i4, i5, i6⟩ := id I
  obtain ⟨t, p, n, hv, hh, z⟩ := id i1
  have hn := hv.2.2.2.2.2.1
  have e75 := hv.2.2.2.2.2.2.1
  have ht := hv.1
  have h74 := hv.2.1
  have hne := hv.2.2.2.2.2.2.2.1
  have e5 : M 1 5 = nI n := hh.2.2.2.2.2.2.1.1.trans e75
  have e19 : M 1 9 = nI t := hh.2.2.2.2.2.2.1.2.2.2.2.trans h74
  refine Cw.imp (kL_noticesIn l x1 (kX8_noticesIn l hls (Rel_CJ i1) x1) (fun B v u ⟨c, _, _, _, e, _⟩ => ⟨_, e⟩) (fun E u q => q.1)) (fun k o u h8 => ?_)
  rcases h8 with ⟨rfl, B0, v0, ⟨c, hc1, hc2, ex, e, eu⟩, ho⟩ | ⟨rfl, q⟩
  · cases e
    have hu : ∀ x, oR 71 x → u x = M x := fun x hx => by rw [eu]; exact (itF_o hx _).trans (cpR_out hx)
    have hu10 : u 710 = M 710 := hu 710 (by omega)
    refine ⟨_, kX9_noticesIn l (by rw [hu10]; exact Rel_RW i1) _, fun B v u2 h9 => ?_⟩
    rcases h9 with ⟨n1, -⟩ | ⟨c', hc1', hc2', ex', e9, e8⟩
    · exact absurd (inrx (n := 200) ex hc1 hc2 (by decide)) n1
    · subst e8
      obtain rfl := sameN (by omega) (by omega) ex ex'
      refine ⟨_, e9, CC_mk rfl ?_ ?_⟩
      · rw [ho]
        refine congrArg Int32.toInt64 ?_
        have hr := Rel_cp (r := 71) i1
        obtain ⟨t2, p2, n2, hv2, hh2, z2⟩ := Rel_it hr c
        have q1 : itF (cpR M 71 1) 71 c 71 5 = psR (M 710) c 75 := hh2.2.2.2.2.2.2.1.1
        obtain ⟨t3, p3, n3, hv3, hh3, z3⟩ := hr
        have q2 : cpR M 71 1 71 5 = M 710 75 := hh3.2.2.2.2.2.2.1.1
        rw [q1, q2]
        show _ = psR (upd (u 710) 71 (u 710 71)) c 75 - upd (u 710) 71 (u 710 71) 75
        rw [upd_id, hu10]
      · exact INV_ask (u := u) (fun x hx => hu x (by omega)) (by rw [hu 564 (by omega)]) (fun x hx => by unfold nbM thM; rw [va_up_ne _ _ (by omega), va_up_ne _ _ (by omega), va_up_ne _ _ (by omega)]) (fun j hj => nb_row (thM u 0) _ c hj) rfl rfl rfl rfl rfl rfl I
  · obtain ⟨-, n1, eu⟩ := q
    obtain rfl := eu.symm
    refine ⟨_, kX9_noticesIn l (Rel_RW i1) _, fun B v u2 h9 => ?_⟩
    rcases h9 with ⟨-, e9, e8⟩ | ⟨c', hc1', hc2', ex', e9, e8⟩
    · subst e8; exact ⟨_, e9, CC_err I (by decide)⟩
    · exact absurd (inrx (n := 200) ex' hc1' hc2' (by decide)) n1

set_option maxHeartbeats 400000 in
theorem S_ticksToNotice (l : Launch) (hls : l.stackTraces = false) {M : Mm} (I : INV M) (x1 : Int32) : Cw l yL_ticksToNotice wsL_ticksToNotice rmL_ticksToNotice (fun B => [.ref (B + 0), .int x1, .ref (B + 717)]) M (N9 CC l yX9_ticksToNotice wsX9_ticksToNotice rmX9_ticksToNotice (fun B => [.ref (B + 709), .int x1])) := by
  obtain ⟨h, L, i1, i2, i3, i4, i5, i6⟩ := id I
  obtain ⟨t, p, n, hv, hh, z⟩ := id i1
  have hn := hv.2.2.2.2.2.1
  have e75 := hv.2.2.2.2.2.2.1
  have ht := hv.1
  have h74 := hv.2.1
  have hne := hv.2.2.2.2.2.2.2.1
  have e5 : M 1 5 = nI n := hh.2.2.2.2.2.2.1.1.trans e75
  have e19 : M 1 9 = nI t := hh.2.2.2.2.2.2.1.2.2.2.2.trans h74
  refine Cw.imp (kL_ticksToNotice l x1 (kX8_ticksToNotice l hls (Rel_CJ i1) x1) (fun B v u ⟨c, _, _, i, _, _, _, q⟩ => q.elim (fun w => ⟨_, w.2.2⟩) (fun w => ⟨_, w.2⟩)) (fun E u q => q.1)) (fun k o u h8 => ?_)
  rcases h8 with ⟨rfl, B0, v0, ⟨c, hc, ex, i, hi, h1, eu, h2⟩, ho⟩ | ⟨rfl, q⟩
  · have hu : ∀ x, oR 71 x → u x = M x := fun x hx => by rw [eu]; exact (itF_o hx _).trans (cpR_out hx)
    have hu10 : u 710 = M 710 := hu 710 (by omega)
    refine ⟨_, kX9_ticksToNotice l (n := n) (by rw [hu10]; exact e75) hn (by rw [hu10]; exact Rel_RW i1) _, fun B v u2 h9 => ?_⟩
    rcases h9 with ⟨n1, -⟩ | ⟨c', hc', ex', k', hk, k1, k2, e9, e8⟩
    · exact absurd (in7x ex hc) n1
    · obtain rfl := sameN (by omega) (by omega) ex ex'
      rw [hu10] at k1 k2 e9
      have hr := Rl_cp (r := 71) (by omega) hn hh
      have h2' : i = 200 ∧ itF (cpR M 71 1) 71 200 (chP 71 c) 4 ≤ itF (cpR M 71 1) 71 0 (chP 71 c) 4 ∧ v0 = -1 ∨ itF (cpR M 71 1) 71 0 (chP 71 c) 4 < itF (cpR M 71 1) 71 i (chP 71 c) 4 ∧ v0 = nI i := h2.imp (fun w => ⟨w.1, w.2.1, by cases w.2.2; rfl⟩) (fun w => ⟨w.1, by cases w.2; rfl⟩)
      have q := tn_eq (G := fun j => itF (cpR M 71 1) 71 j (chP 71 c) 4) (fun j => hs_iff hc hv hr z j) hi h1 h2' hk k1 k2
      refine ⟨_, e9, CC_mk (by rw [e8]; rfl) (by rw [ho, q]) ?_⟩
      rw [e8]
      exact INV_ask (u := u) (fun x hx => hu x (by omega)) (by rw [hu 564 (by omega)]) (fun x hx => by unfold thM; rw [va_up_ne _ _ (by omega), va_up_ne _ _ (by omega), va_up_ne _ _ (by omega)]) (fun j hj => by rw [va_up_self]; unfold cpW; rw [if_pos hj, if_pos hj]) rfl rfl rfl rfl rfl rfl I
  · obtain ⟨-, n1, eu⟩ := q
    obtain rfl := eu.symm
    refine ⟨_, kX9_ticksToNotice l (n := n) e75 hn (Rel_RW i1) _, fun B v u2 h9 => ?_⟩
    rcases h9 with ⟨-, e9, e8⟩ | ⟨c', hc', ex', -⟩
    · subst e8; exact ⟨_, e9, CC_err I (by decide)⟩
    · exact absurd (in7x ex' hc') n1

set_option maxHeartbeats 400000 in
theorem S_mildLimit (l : Launch) (hls : l.stackTraces = false) {M : Mm} (I : INV M) (x1 : Int32) : Cw l yL_mildLimit wsL_mildLimit rmL_mildLimit (fun B => [.ref (B + 0), .int x1, .ref (B + 717)]) M (N9 CC l yX9_mildLimit wsX9_mildLimit rmX9_mildLimit (fun B => [.ref (B + 709), .int x1])) := by
  obtain ⟨h, L, i1, i2, i3, i4, i5, i6⟩ := id I
  obtain ⟨t, p, n, hv, hh, z⟩ := id i1
  have hn := hv.2.2.2.2.2.1
  have e75 := hv.2.2.2.2.2.2.1
  have ht := hv.1
  have h74 := hv.2.1
  have hne := hv.2.2.2.2.2.2.2.1
  have e5 : M 1 5 = nI n := hh.2.2.2.2.2.2.1.1.trans e75
  have e19 : M 1 9 = nI t := hh.2.2.2.2.2.2.1.2.2.2.2.trans h74
  refine Cw.imp (kL_mildLimit l x1 (kX8_mildLimit l hls (Rel_CJ i1) x1) (fun B v u ⟨c, _, _, _, _, i, _, _, q⟩ => q.elim (fun w => ⟨_, w.2⟩) (fun w => ⟨_, w.2.1⟩)) (fun E u q => q.1)) (fun k o u h8 => ?_)
  rcases h8 with ⟨rfl, B0, v0, ⟨c, hc1, hc2, ex, hu, i, hi, h1, h2⟩, ho⟩ | ⟨rfl, q⟩
  · have hu10 : u 710 = M 710 := hu 710 (by omega)
    refine ⟨_, kX9_mildLimit l (by rw [hu10]; exact Rel_RW i1) _, fun B v u2 h9 => ?_⟩
    rcases h9 with ⟨n1, -⟩ | ⟨c', hc1', hc2', ex', e9, e8⟩
    · exact absurd (inrx (n := 200) ex hc1 hc2 (by decide)) n1
    · subst e8
      obtain rfl := sameN (by omega) (by omega) ex ex'
      have q : v0 = mlV u c 5 := ml_eq hv hh z (fun j hj => by rw [hu10]) hi h1 (h2.imp (fun w => ⟨w.1, by cases w.2; rfl⟩) (fun w => ⟨w.1, by cases w.2.1; rfl, w.2.2⟩))
      refine ⟨_, e9, CC_mk (by rw [mlR_9]; rfl) (by rw [ho, q]) ?_⟩
      exact INV_ask (u := u) (fun x hx => hu x (by omega)) (by rw [hu 564 (by omega)]) (fun x hx => mlR_o (by omega) (by omega) (by omega) 5) (fun j hj => mlR_row u c hj 5) (mlR_o (by omega) (by omega) (by omega) 5) (mlR_o (by omega) (by omega) (by omega) 5) (mlR_o (by omega) (by omega) (by omega) 5) (mlR_o (by omega) (by omega) (by omega) 5) (by rw [mlR_9]; rfl) (by rw [mlR_9]; rfl) I
  · obtain ⟨-, n1, eu⟩ := q
    obtain rfl := eu.symm
    refine ⟨_, kX9_mildLimit l (Rel_RW i1) _, fun B v u2 h9 => ?_⟩
    rcases h9 with ⟨-, e9, e8⟩ | ⟨c', hc1', hc2', ex', -⟩
    · subst e8; exact ⟨_, e9, CC_err I (by decide)⟩
    · exact absurd (inrx (n := 200) ex' hc1' hc2' (by decide)) n1

set_option maxHeartbeats 400000 in
theorem S_put (l : Launch) (hls : l.stackTraces = false) {M : Mm} (I : INV M) (x1 : Int64) : Cw l yL_put wsL_put rmL_put (fun B => [.ref (B + 0), .long x1, .ref (B + 717)]) M (N9 CC l yX9_put wsX9_put rmX9_put (fun B => [.ref (B + 709), .long x1])) := by
  obtain ⟨h, L, i1, i2, i3, i4, i5, i6⟩ := id I
  obtain ⟨t, p, n, hv, hh, z⟩ := id i1
  have hn := hv.2.2.2.2.2.1
  have e75 := hv.2.2.2.2.2.2.1
  have ht := hv.1
  have h74 := hv.2.1
  have hne := hv.2.2.2.2.2.2.2.1
  have e5 : M 1 5 = nI n := hh.2.2.2.2.2.2.1.1.trans e75
  have e19 : M 1 9 = nI t := hh.2.2.2.2.2.2.1.2.2.2.2.trans h74
  refine Cw.imp (kL_put l x1 (kX8_put l hls (L := L) i5.1 i5.2.1 x1) (fun B v u ⟨c, _, _, _, _, e, _⟩ => ⟨_, e⟩) (fun E u q => q.elim (fun w => Or.inl w.1) (fun w => Or.inr w.1))) (fun k o u h8 => ?_)
  have cm := co_hm x1
  rcases h8 with ⟨rfl, B0, v0, ⟨c, hc, e1, e2, h3, e, eu⟩, ho⟩ | ⟨rfl, q | q⟩ | ⟨rfl, q | q⟩
  · cases e
    have hu : ∀ x, x ≠ 564 → x ≠ 565 → u x = M x := fun x q1 q2 => by rw [eu]; exact (va_up_ne _ _ q1).trans (va_up_ne _ _ q2)
    have hu64 : u 564 2 = nI (L + c) := by rw [eu, va_up_self, upd_at]
    have hu65 : u 565 = apS x1 c L (M 565) c := by rw [eu, va_up_ne _ _ (by omega), va_up_self]
    have hc0 : hmF x1 = nI c ∧ 1 ≤ c := by
      rcases cm with ⟨d, hd, w1, w2⟩ | ⟨w1, -⟩
      · obtain rfl := sameN (by omega) (by omega) e1 w1
        exact ⟨w2, (nI_ltI (a := 0) (b := c) (by omega) (by omega)).mp (by rw [← e1]; exact e2)⟩
      · rw [w1] at e2; exact absurd e2 (by decide)
    refine ⟨_, kX9_put l (L := L) i5.1 (by rw [hu 709 (by omega) (by omega)]; exact i6) _, fun B v u2 h9 => ?_⟩
    rcases h9 with ⟨n1, -⟩ | ⟨c', d1, d2, d3, ⟨n2, -⟩ | ⟨d4, e9, e8⟩⟩
    · rw [hc0.1] at n1; exact absurd n1 (nI_ne0 (by omega) (by omega))
    · obtain rfl := sameN (by omega) (by omega) hc0.1 d3
      omega
    · obtain rfl := sameN (by omega) (by omega) hc0.1 d3
      have hw : ∀ x, x ≠ 709 → x ≠ 715 → u2 x = u x := fun x q1 q2 => by
        rw [e8]; unfold wtM thM
        rw [va_up_ne _ _ q1, va_up_ne _ _ q2, va_up_ne _ _ q1]
      have h709 : u2 709 = upd (upd (M 709) 0 0) 8 (nI (L + c)) := by
        rw [e8]; unfold wtM thM
        rw [va_up_self, va_up_self, hu 709 (by omega) (by omega)]
      have h715 : u2 715 = wtR x1 c L (M 715) c := by
        rw [e8]; unfold wtM
        rw [va_up_ne _ _ (by omega), va_up_self, hu 715 (by omega) (by omega)]
      have ho2 : ∀ x, x ≠ 564 → x ≠ 565 → x ≠ 709 → x ≠ 715 → u2 x = M x := fun x q1 q2 q3 q4 => (hw x q3 q4).trans (hu x q1 q2)
      refine ⟨_, e9, CC_mk (by rw [h709]; rfl) ho ⟨h, L + c, ?_, ?_, by rw [h709]; exact i3, ?_, ⟨h3, ?_, fun j hj => ?_⟩, by rw [h709]; rfl⟩⟩
      · rw [ho2 710 (by omega) (by omega) (by omega) (by omega)]
        exact Rel_mem (fun x q1 q2 => ho2 x (by omega) (by omega) (by omega) (by omega)) i1
      · rw [ho2 711 (by omega) (by omega) (by omega) (by omega)]
        exact HR_of (fun x q1 q2 => ho2 x (by omega) (by omega) (by omega) (by omega)) i2
      · rw [ho2 712 (by omega) (by omega) (by omega) (by omega), ho2 713 (by omega) (by omega) (by omega) (by omega)]
        exact SR_of (fun x q1 q2 => ho2 x (by omega) (by omega) (by omega) (by omega)) i4
      · rw [hw 564 (by omega) (by omega)]; exact hu64
      · rw [hw 565 (by omega) (by omega), hu65, h715]
        exact ap_wt x1 hc (fun j hj => i5.2.2 j hj) c (Nat.le_refl _) j hj
  · obtain ⟨-, n1, eu⟩ := q
    obtain rfl := eu.symm
    have hc0 : hmF x1 = 0 := by
      rcases cm with ⟨d, hd, w1, w2⟩ | ⟨-, w2⟩
      · rw [w1] at n1
        have : d = 0 := by have := (nI_leI (a := d) (b := 0) (by omega) (by omega)).mp n1; omega
        rw [w2, this]; rfl
      · exact w2
    refine ⟨_, kX9_put l (L := L) i5.1 i6 _, fun B v u2 h9 => ?_⟩
    rcases h9 with ⟨-, e9, e8⟩ | ⟨c', d1, d2, d3, -⟩
    · subst e8; exact ⟨_, e9, CC_err I (by decide)⟩
    · rw [hc0] at d3; exact absurd d3.symm (nI_ne0 (by omega) (by omega))
  · exact absurd q.1 n_AS
  · exact absurd q.1 n_SA
  · obtain ⟨-, r1, n2, eu⟩ := q
    obtain rfl := eu.symm
    have hL60 := i5.1
    refine ⟨_, kX9_put l (L := L) i5.1 i6 _, fun B v u2 h9 => ?_⟩
    rcases cm with ⟨d, hd, w1, w2⟩ | ⟨w1, -⟩
    · rw [w1, i5.2.1, show (60 : Int32) - nI L = nI (60 - L) from pk_sub (a := 60) (b := L) i5.1] at n2
      have hdL : ¬ d ≤ 60 - L := fun z => n2 (nI_le z (by omega))
      rcases h9 with ⟨n1, -⟩ | ⟨c', d1, d2, d3, ⟨-, e9, e8⟩ | ⟨d4, -⟩⟩
      · rw [w2] at n1; exact absurd n1 (nI_ne0 (by omega) (by omega))
      · subst e8; exact ⟨_, e9, CC_err I (by decide)⟩
      · obtain rfl := sameN (by omega) (by omega) w2 d3
        omega
    · rw [w1] at r1; exact absurd r1 (by decide)

set_option maxHeartbeats 400000 in
theorem S_undo (l : Launch) (hls : l.stackTraces = false) {M : Mm} (I : INV M) : Cw l yL_undo wsL_undo rmL_undo (fun B => [.ref (B + 0), .ref (B + 717)]) M (N9 CC l yX9_undo wsX9_undo rmX9_undo (fun B => [.ref (B + 709)])) := by
  obtain ⟨h, L, i1, i2, i3, i4, i5, i6⟩ := id I
  obtain ⟨t, p, n, hv, hh, z⟩ := id i1
  have hn := hv.2.2.2.2.2.1
  have e75 := hv.2.2.2.2.2.2.1
  have ht := hv.1
  have h74 := hv.2.1
  have hne := hv.2.2.2.2.2.2.2.1
  have e5 : M 1 5 = nI n := hh.2.2.2.2.2.2.1.1.trans e75
  have e19 : M 1 9 = nI t := hh.2.2.2.2.2.2.1.2.2.2.2.trans h74
  refine Cw.imp (kL_undo l (kX8_undo l hls (h := h) i2.2.2.1 i2.1 i2.2.1) (fun B v u ⟨_, e, _⟩ => ⟨_, e⟩) (fun E u q => q.1)) (fun k o u h8 => ?_)
  rcases h8 with ⟨rfl, B0, v0, ⟨h0, e, eu⟩, ho⟩ | ⟨rfl, q⟩
  · cases e
    have hS := i2.2.2.1
    have h1 : 1 ≤ h := by
      by_cases w : h = 0
      · exact absurd (by rw [i2.2.1, w]; rfl) h0
      · omega
    have hu : ∀ x, 563 ≤ x → u x = M x := fun x hx => by rw [eu]; exact (cpR_out (by omega)).trans (va_up_ne _ _ (by omega))
    have hu9 : u 709 = M 709 := hu 709 (by omega)
    have v1 : gbM M h 1 141 1 = nI (h - 1) := by
      unfold gbM
      rw [cpR_out (by omega), va_up_self, upd_at]
    refine ⟨_, kX9_undo l (s := h) i2.1 (by rw [hu9]; exact i3), fun B v u2 h9 => ?_⟩
    rcases h9 with ⟨n1, -⟩ | ⟨-, e9, e8⟩
    · omega
    · subst e8
      refine ⟨_, e9, CC_mk rfl (by rw [ho, v1]) ?_⟩
      exact INV_undo (M := M) h1 i2 i4 i5 i6 (fun x hx => by unfold ud1 thM; rw [va_up_ne _ _ (by omega), va_up_ne _ _ (by omega), va_up_ne _ _ (by omega), eu]) (by rw [va_up_self, hu 710 (by omega), hu 711 (by omega)]) (hu 711 (by omega)) (hu 712 (by omega)) (hu 713 (by omega)) (hu 715 (by omega)) rfl (by show u 709 8 = M 709 8; rw [hu9])
  · obtain ⟨-, n1, eu⟩ := q
    obtain rfl := eu.symm
    have h0 : h = 0 := by
      rw [i2.2.1] at n1
      exact nI_inj (a := h) (b := 0) (by have := i2.1; omega) (by omega) n1
    refine ⟨_, kX9_undo l (s := h) i2.1 i3, fun B v u2 h9 => ?_⟩
    rcases h9 with ⟨-, e9, e8⟩ | ⟨n1, -⟩
    · subst e8; exact ⟨_, e9, CC_err I (by decide)⟩
    · omega

set_option maxHeartbeats 400000 in
theorem S_save (l : Launch) (hls : l.stackTraces = false) {M : Mm} (I : INV M) (x1 : Int32) : Cw l yL_save wsL_save rmL_save (fun B => [.ref (B + 0), .int x1, .ref (B + 717)]) M (N9 CC l yX9_save wsX9_save rmX9_save (fun B => [.ref (B + 709), .int x1])) := by
  obtain ⟨h, L, i1, i2, i3, i4, i5, i6⟩ := id I
  obtain ⟨t, p, n, hv, hh, z⟩ := id i1
  have hn := hv.2.2.2.2.2.1
  have e75 := hv.2.2.2.2.2.2.1
  have ht := hv.1
  have h74 := hv.2.1
  have hne := hv.2.2.2.2.2.2.2.1
  have e5 : M 1 5 = nI n := hh.2.2.2.2.2.2.1.1.trans e75
  have e19 : M 1 9 = nI t := hh.2.2.2.2.2.2.1.2.2.2.2.trans h74
  refine Cw.imp (kL_save l x1 (kX8_save l hls e5 hn x1) (fun B v u ⟨c, _, _, e, _⟩ => ⟨_, e⟩) (fun E u q => q.1)) (fun k o u h8 => ?_)
  rcases h8 with ⟨rfl, B0, v0, ⟨a, ha, ex, e, eu⟩, ho⟩ | ⟨rfl, q⟩
  · cases e
    have hu : ∀ x, x < 567 + 71 * a ∨ 709 ≤ x → u x = M x := fun x hx => by rw [eu]; exact (va_up_ne _ _ (by omega)).trans (cpR_out (by omega))
    have hu10 : u 710 = M 710 := hu 710 (by omega)
    have hR : Rel u 1 (M 710) := Rel_mem (fun x q1 q2 => hu x (by omega)) i1
    have hst : stnF u 1 n = staR (M 710) n := by
      obtain ⟨t2, p2, n2, hv2, hh2, z2⟩ := hR
      have q : n2 = n := nI_inj (by have := hv2.2.2.2.2.2.1; omega) (by omega) (hv2.2.2.2.2.2.2.1.symm.trans e75)
      subst q
      exact stn_eq hh2.2.2.2.2.2.2.2 n2 (Nat.le_refl _)
    refine ⟨_, kX9_save l (n := n) (by rw [hu10]; exact e75) hn _, fun B v u2 h9 => ?_⟩
    rcases h9 with ⟨n1, -⟩ | ⟨a', ha', ex', e9, e8⟩
    · exact absurd (in1x ex ha) n1
    · subst e8
      obtain rfl := sameN (by omega) (by omega) ex ex'
      rw [hu10] at e9
      refine ⟨_, e9, CC_mk rfl (by rw [ho, ← eu, hst]) ?_⟩
      exact INV_save ha I (fun x hx => by unfold thM; rw [va_up_ne _ _ (by omega), va_up_ne _ _ (by omega), va_up_ne _ _ (by omega), eu]) hu10 (hu 711 (by omega)) (by show wrW (u 712) (a * 1804) (u 710) 1804 = _; rw [hu 712 (by omega), hu10]) (by show upd (u 713) a 1 = _; rw [hu 713 (by omega)]) (hu 715 (by omega)) (by show u 709 3 = _; rw [hu 709 (by omega)]) (by show u 709 8 = _; rw [hu 709 (by omega)])
  · obtain ⟨-, n1, eu⟩ := q
    obtain rfl := eu.symm
    refine ⟨_, kX9_save l (n := n) e75 hn _, fun B v u2 h9 => ?_⟩
    rcases h9 with ⟨-, e9, e8⟩ | ⟨a', ha', ex', -⟩
    · subst e8; exact ⟨_, e9, CC_err I (by decide)⟩
    · exact absurd (in1x ex' ha') n1

set_option maxHeartbeats 400000 in
theorem S_restore (l : Launch) (hls : l.stackTraces = false) {M : Mm} (I : INV M) (x1 : Int32) : Cw l yL_restore wsL_restore rmL_restore (fun B => [.ref (B + 0), .int x1, .ref (B + 717)]) M (N9 CC l yX9_restore wsX9_restore rmX9_restore (fun B => [.ref (B + 709), .int x1])) := by
  obtain ⟨h, L, i1, i2, i3, i4, i5, i6⟩ := id I
  obtain ⟨t, p, n, hv, hh, z⟩ := id i1
  have hn := hv.2.2.2.2.2.1
  have e75 := hv.2.2.2.2.2.2.1
  have ht := hv.1
  have h74 := hv.2.1
  have hne := hv.2.2.2.2.2.2.2.1
  have e5 : M 1 5 = nI n := hh.2.2.2.2.2.2.1.1.trans e75
  have e19 : M 1 9 = nI t := hh.2.2.2.2.2.2.1.2.2.2.2.trans h74
  have hS := i2.2.2.1
  have hR0 : Rel (recM M h 1) 1 (M 710) := Rel_mem (fun x q1 q2 => recM_o (by omega) hS) i1
  have ro : ∀ x, x < 141 ∨ 563 ≤ x → recM M h 1 x = M x := fun x hx => recM_o hx hS
  have hK := hr_sl i4
  refine Cw.imp (kL_restore l x1 (kX8_restore l hls (h := h) i2.2.2.1 i2.1 i2.2.1 hK.1 x1) (fun B v u ⟨c, _, _, _, _, _, _, e, _⟩ => ⟨_, e⟩) (fun E u q => q.elim (fun w => Or.inl w.1) (fun w => Or.inr w.1))) (fun k o u h8 => ?_)
  rcases h8 with ⟨rfl, B0, v0, ⟨a, ha, ex, h0, m, hm, em, e, eu⟩, ho⟩ | ⟨rfl, q | q⟩ | ⟨rfl, q | q⟩
  · cases e
    have hu : ∀ x, 563 ≤ x → u x = M x := fun x hx => by rw [eu]; exact (cpR_out (by omega)).trans (ro x (by omega))
    have hu9 : u 709 = M 709 := hu 709 (by omega)
    have hu12 : u 712 = M 712 := hu 712 (by omega)
    have hu10 : u 710 = M 710 := hu 710 (by omega)
    obtain ⟨s1, s2, s3⟩ := (i4 a ha).resolve_left (fun w => h0 w.1)
    have hR : Rel u 1 (cpW (M 710) (rwA (M 712) a) 1804) := by
      rw [eu]
      refine Rel_of (fun x hx => ?_) (fun j hj => by unfold cpW; rw [if_pos hj]) s3
      rw [cpR_in (by omega), ro _ (by omega)]
      congr 1; omega
    have hst : ∀ n', cpW (M 710) (rwA (M 712) a) 1804 75 = nI n' → n' ≤ 20 → m = n' ∧ stnF u 1 n' = staR (cpW (M 710) (rwA (M 712) a) 1804) n' := by
      intro n' hn' hn20
      obtain ⟨t2, p2, n2, hv2, hh2, z2⟩ := hR
      have q : n2 = n' := nI_inj (by have := hv2.2.2.2.2.2.1; omega) (by omega) (hv2.2.2.2.2.2.2.1.symm.trans hn')
      subst q
      refine ⟨?_, stn_eq hh2.2.2.2.2.2.2.2 n2 (Nat.le_refl _)⟩
      have q2 : M (567 + 71 * a + 1) 5 = nI n2 := by
        obtain ⟨t3, p3, n3, hv3, hh3, z3⟩ := s3
        exact hh3.2.2.2.2.2.2.1.1.trans hn'
      exact nI_inj (by omega) (by omega) (em.symm.trans q2)
    refine ⟨_, kX9_restore l (s := h) i2.1 (by rw [hu9]; exact i3) (by rw [hu12]; exact hK.2) _, fun B v u2 h9 => ?_⟩
    rcases h9 with ⟨n1, -⟩ | ⟨a', ha', ex', w⟩
    · exact absurd (in1x ex ha) n1
    · obtain rfl := sameN (by omega) (by omega) ex ex'
      rcases w with ⟨n2, -⟩ | ⟨-, n', hn', en', e9, e8⟩
      · rw [hu 713 (by omega), s2] at n2; exact absurd n2 (by decide)
      · subst e8
        rw [hu10, hu12] at e9 ⊢
        rw [hu12] at en'
        obtain ⟨q1, q2⟩ := hst n' en' hn'
        refine ⟨_, e9, CC_mk rfl (by rw [ho, ← eu, q1, q2]) ?_⟩
        exact INV_set i1 i2 i4 i5 i6 hu (fun x q1 q2 => by rw [eu]; exact cpR_out (by omega)) hR
  · obtain ⟨-, n1, eu⟩ := q
    obtain rfl := eu.symm
    refine ⟨_, kX9_restore l (s := h) i2.1 i3 hK.2 _, fun B v u2 h9 => ?_⟩
    rcases h9 with ⟨-, e9, e8⟩ | ⟨a', ha', ex', -⟩
    · subst e8; exact ⟨_, e9, CC_err I (by decide)⟩
    · exact absurd (in1x ex' ha') n1
  · exact absurd q.1 n_IS
  · exact absurd q.1 n_SI
  · obtain ⟨-, a, ha, ex, h0, eu⟩ := q
    obtain rfl := eu.symm
    have s2 : M 713 a = 0 := by
      rcases i4 a ha with w | ⟨w, -⟩
      · exact w.2.1
      · rw [h0] at w; exact absurd w (by decide)
    refine ⟨_, kX9_restore l (s := h) i2.1 i3 hK.2 _, fun B v u2 h9 => ?_⟩
    rcases h9 with ⟨n1, -⟩ | ⟨a', ha', ex', w⟩
    · exact absurd (in1x ex ha) n1
    · obtain rfl := sameN (by omega) (by omega) ex ex'
      rcases w with ⟨-, e9, e8⟩ | ⟨n2, -⟩
      · subst e8; exact ⟨_, e9, CC_err I (by decide)⟩
      · exact absurd s2 n2
