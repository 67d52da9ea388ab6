/-! the law's own rows -/
section LAWR
variable {p : Program} {l : Launch} {e : Env} {R : Room} {s : State} {m : MethodId} {args : Array Value} {below : List Frame} {meth : Method} {c : Code} {Q : State → Prop} {D : va_G} {ca : Nat → ClassId} {cl : ClassId} {o : Nat → Int64} {B b L : Nat} {xs : Nat → Int32} {Tl : va_W} {A : Nat → Prop} {nL cells slots nn : Nat} {C : CE} {M : Mm} {pc : Nat} {lv : List (Nat × Value)} {st rest : List Value} {cc : ByteArray} {Ts : List Cond} {own : String}
variable {y : MethodName} {ws : List Cond} {rm : Room} {av : Nat → List Value} {post : Int32 → Int64 → Mm → Prop}
theorem gc_astore_n (F : Fx p R s m args meth c cc nL Ts own D ca (AB B)) {k : Fin 4} {i : Nat} {x : Nat} {lv2 : List (Nat × Value)} (hdg : decode cc pc = .ok (.astore_n k, 1)) (hi : (k : Nat) = i) (hn : i < nL) (hq : lset i (.ref x) lv = lv2) (kk : GC p l e R s m args below meth c Q D ca B (AB B) nL cells slots nn C (pc + 1) lv2 st) : GC p l e R s m args below meth c Q D ca B (AB B) nL cells slots nn C pc lv (.ref x :: st) := fun H locs ls w9 h9 hl9 => lv_astore_n F.1.1 F.1.2.1 hdg hi hl9 hn hq (fun ls9 hl8 => kk H locs ls9 w9 h9 hl8)
theorem gc_istore (F : Fx p R s m args meth c cc nL Ts own D ca (AB B)) {i : Nat} {x : Int32} {lv2 : List (Nat × Value)} (hdg : decode cc pc = .ok (.istore i, 2)) (hn : i < nL) (hq : lset i (.int x) lv = lv2) (kk : GC p l e R s m args below meth c Q D ca B (AB B) nL cells slots nn C (pc + 2) lv2 st) : GC p l e R s m args below meth c Q D ca B (AB B) nL cells slots nn C pc lv (.int x :: st) := fun H locs ls w9 h9 hl9 => lv_istore F.1.1 F.1.2.1 hdg hl9 hn hq (fun ls9 hl8 => kk H locs ls9 w9 h9 hl8)
theorem wl_addr {k : Nat} {q : Nat × va_E} (h : (wld ca B M (TL cl B o))[k]? = some q) : k < 718 ∧ q.1 = B + k := by
  by_cases hk : k < 717
  · rw [wld_at hk] at h; cases h; exact ⟨by omega, rfl⟩
  · unfold wld at h
    rw [List.getElem?_append_right (by simpa using Nat.le_of_not_lt hk)] at h
    simp only [List.length_map, List.length_range] at h
    have hz : k - 717 < 1 := (List.getElem?_eq_some_iff.mp h).1
    rw [show k - 717 = 0 by omega] at h
    cases h
    exact ⟨by omega, by show B + 717 = B + k; omega⟩
/-- the array of one long: behind it the world is whole -/
theorem gc_newlong (F : Fx p R s m args meth c cc nL Ts own D ca (AB B)) (harr : Cond.arrayClass .long ∈ Ts) (hT : Ty M) (hcells : cells + 1 ≤ R.cells) (hslots : slots + 1 ≤ R.slots) (hdg : decode cc pc = .ok (.newarray .long, 2)) (kk : ∀ cl, va_K D vwCl [(cl, .long)] s → G p l e R s m args below meth c Q D ca B (TL cl B (fun _ => 0)) (AB B) nL (cells + 1) (slots + 1) M (pc + 2) lv (.ref (B + 717) :: st)) : GC p l e R s m args below meth c Q D ca B (AB B) nL cells slots 717 (cel ca B M) pc lv (.int 1 :: st) := by
  intro H locs ls w9 h9 hl9
  refine va_newaK (atype := .long) (N := 1) F.1.1 F.1.2.1 (F.h1 harr) rfl hdg rfl (by decide) (by decide) (by decide) hcells hslots w9.2 fun H1 cB e1 z1 o1 hAr hNm => ?_
  have hL : va_K D vwCl [(cB, .long)] s := ⟨F.2.1.1, fun k q hk => by
    have hz : k < 1 := (List.getElem?_eq_some_iff.mp hk).1
    rw [show k = 0 by omega] at hk
    cases hk
    exact ⟨hAr, hNm⟩⟩
  refine kk cB hL H1 locs ls ⟨fun k q hk => ?_, ⟨fun i j x y hx hy e => ?_, fun k q hk => ?_⟩, hT⟩ ⟨Nat.le_trans h9.1 (by rw [z1, w9.2]; omega), fun y q1 q2 => (o1 y (by rw [← w9.2]; exact Nat.lt_of_lt_of_le q1 h9.1)).trans (h9.2.1 y q1 q2), h9.2.2⟩ hl9
  · by_cases hl : k < 717
    · rw [wld_at hl] at hk
      cases hk
      exact (w9.1 k hl).kept (o1 _ (by show B + k < B + 717; omega))
    · have h7 : k = 717 := by have := (wl_addr hk).1; omega
      rw [h7, wl_out] at hk
      cases hk
      show H1[B + 717]? = some (vp_cell _ _)
      rw [vp_cell_l]; exact e1
  · have h1 := (wl_addr hx).2
    have h2 := (wl_addr hy).2
    rw [h1, h2] at e
    omega
  · rw [(wl_addr hk).2]; exact Nat.le_add_right _ _
theorem PreW_blind {sz : Nat} : FrameBlind (va_Pc (av B) (PreW D ca cl B o sz M)) := fun _ _ _ _ q => ⟨q.1, q.2.call⟩
theorem g_callW (F : Fx p R s m args meth c cc nL Ts own D ca A) (hN : Nc3 s) (hL : va_K D vwCl [(cl, .long)] s) (hM : Cw l y ws rm av M post) {index n maxL : Nat} {bytes : ByteArray} {ret : Option FieldType} {hh : List (Nat × Nat × Nat × Nat)} {As : List Value} (cw : vx_CSW R s args own index y bytes maxL ret hh ws rm rm.cells rm.slots n) (hav : av B = As) (hn : As.length = n) (hst : st = As.reverse ++ rest) (hW : (rest.map fun v => v.category).sum ≤ 8) (hdg : decode cc pc = .ok (.invokestatic index, 3)) (hf : cells + rm.cells ≤ R.cells ∧ slots + rm.slots ≤ R.slots)
    (kk : ∀ (k : Int32) (o' : Nat → Int64) (u : Mm), post k (o' 0) u → G p l e R s m args below meth c Q D ca B (TL cl B o') A nL (cells + rm.cells) (slots + rm.slots) u (pc + 3) lv (.int k :: rest)) : G p l e R s m args below meth c Q D ca B (TL cl B o) A nL cells slots M pc lv st := by
  intro H locs ls w9 h9 hl9 T hT X
  have hA := Aw_of (sz := H.size) w9.2.1 (fun q hq => F.2.2.1 q (Nat.le_trans h9.1 hq))
  obtain ⟨v, st₀, t, T', L', h0, X', hL', e1, e2, ⟨⟨k0, u, o', hv, hp, hb⟩, hF⟩, stp⟩ := vx_runSW (As := As) (rest := rest) F.1 (hM D ca cl B o H.size) cw ⟨PreW_blind, fun U hU hW => ⟨by rw [hav], F.pre w9 h9 hU hW, Nc3.moved hW.alike hN, va_K.moved hW.alike hL⟩⟩ rfl hn hl9.1 hst (lv_room hW) hdg hf T hT X
  cases hv
  obtain ⟨k1, k2, k3⟩ := vx_keep h0 e1 h9 (fun q _ z => hA q z) hA hL' hF
  obtain ⟨t2, a1, b1⟩ := kk k0 o' u hp T'.heap (locs ++ L') ls ⟨by rw [e1]; exact hb.1, hb.2.1.weaken (fun _ _ _ z => hA _ z), hb.2.2⟩ k3 hl9 T' rfl X'
  exact ⟨t2, stp t2 a1, b1⟩
theorem g_sld (F : Fx p R s m args meth c cc nL Ts own D ca A) (hX : va_X b L xs s s.heap) (hbl : b < s.heap.size) (hbA : ¬ A b) {i : Int32} (j : Nat) (hi : i = nI j) (hj : j < L) (hL9 : L ≤ 3072) (hdg : decode cc pc = .ok (.iaload, 1)) (k : G p l e R s m args below meth c Q D ca B Tl A nL cells slots M (pc + 1) lv (.int (xs j) :: st)) : G p l e R s m args below meth c Q D ca B Tl A nL cells slots M pc lv (.int i :: .ref b :: st) := by
  subst hi
  intro H locs ls w9 h9 hl9
  refine va_sld F.1.1 F.1.2.1 hX hbl hbA h9 (vp_in_nI hj (by omega)) hdg ?_
  rw [nI_clamp (by omega)]
  exact k H locs ls w9 h9 hl9
theorem g_slen (F : Fx p R s m args meth c cc nL Ts own D ca A) (hX : va_X b L xs s s.heap) (hbl : b < s.heap.size) (hbA : ¬ A b) (hdg : decode cc pc = .ok (.arraylength, 1)) (k : G p l e R s m args below meth c Q D ca B Tl A nL cells slots M (pc + 1) lv (.int (nI L) :: st)) : G p l e R s m args below meth c Q D ca B Tl A nL cells slots M pc lv (.ref b :: st) := fun H locs ls w9 h9 hl9 => va_slen F.1.1 F.1.2.1 hX hbl hbA h9 hdg (k H locs ls w9 h9 hl9)
theorem g_bool (F : Fx p R s m args meth c cc nL Ts own D ca A) {x : Int32} {o1 o2 : Int} (t1 t2 : Nat) (h1 : decode cc pc = .ok (.ifCond .eq o1, 3)) (e1 : (pc : Int) + o1 = (t1 : Int)) (h2 : decode cc (pc + 3) = .ok (.iconst 1, 1)) (h3 : decode cc (pc + 3 + 1) = .ok (.goto o2, 3)) (e2 : ((pc + 3 + 1 : Nat) : Int) + o2 = (t2 : Int)) (h4 : decode cc t1 = .ok (.iconst 0, 1)) (e4 : t1 + 1 = t2) (k : G p l e R s m args below meth c Q D ca B Tl A nL cells slots M t2 lv (.int (b2i (¬ x = 0)) :: st)) : G p l e R s m args below meth c Q D ca B Tl A nL cells slots M pc lv (.int x :: st) := by
  refine g_if_eq F t1 h1 e1 (fun hx => ?_) (fun hx => ?_)
  · refine g_iconst F (v := 0) h4 (by decide) ?_
    rw [e4]; rw [b2i_f (fun q => q hx)] at k; exact k
  · refine g_iconst F (v := 1) h2 (by decide) ?_
    refine g_goto F t2 h3 e2 ?_
    rw [b2i_t hx] at k; exact k
theorem nI_ad (a b : Nat) : nI a + nI b = nI (a + b) := (Int32.ofNat_add a b).symm
theorem bL_0 {x : Int32} (h : x = 0) : bL x = 0 := if_pos h
theorem bL_1 {x : Int32} (h : ¬ x = 0) : bL x = 1 := if_neg h
end LAWR

