/-! the law's arrays: c, g, q, r, m, n at 709 .. 714, told by a row f -/
theorem a709 : isA 11 32 709 := ⟨by decide, by decide +kernel, by decide +kernel⟩
theorem a710 : isA 11 32 710 := ⟨by decide, by decide +kernel, by decide +kernel⟩
theorem a711 : isA 11 20 711 := ⟨by decide, by decide +kernel, by decide +kernel⟩
theorem a712 : isA 11 64 712 := ⟨by decide, by decide +kernel, by decide +kernel⟩
theorem a713 : isA 11 48 713 := ⟨by decide, by decide +kernel, by decide +kernel⟩
theorem a714 : isA 11 20 714 := ⟨by decide, by decide +kernel, by decide +kernel⟩
/-- the six arrays, set -/
def lwM (M : Mm) (c g q r m n : Nat → Int32) : Mm := fun x => if x = 709 then c else if x = 710 then g else if x = 711 then q else if x = 712 then r else if x = 713 then m else if x = 714 then n else M x
theorem lwM_id (M : Mm) : lwM M (M 709) (M 710) (M 711) (M 712) (M 713) (M 714) = M := by
  funext x; unfold lwM
  split
  · next h => rw [h]
  · split
    · next h => rw [h]
    · split
      · next h => rw [h]
      · split
        · next h => rw [h]
        · split
          · next h => rw [h]
          · split
            · next h => rw [h]
            · rfl
theorem lwM_o (M : Mm) (c g q r m n : Nat → Int32) {x : Nat} (h : x < 709 ∨ 715 ≤ x) : lwM M c g q r m n x = M x := by
  unfold lwM
  rw [if_neg (by omega), if_neg (by omega), if_neg (by omega), if_neg (by omega), if_neg (by omega), if_neg (by omega)]
theorem lwM_709 (M : Mm) (c g q r m n z : Nat → Int32) : va_up (lwM M c g q r m n) 709 z = lwM M z g q r m n := by
  funext x
  by_cases h : x = 709
  · subst h; rw [va_up_self]; rfl
  · rw [va_up_ne _ _ h]; unfold lwM
    by_cases h1 : x = 709
    · exact absurd h1 h
    · by_cases h2 : x = 710
      · subst h2; rfl
      · by_cases h3 : x = 711
        · subst h3; rfl
        · by_cases h4 : x = 712
          · subst h4; rfl
          · by_cases h5 : x = 713
            · subst h5; rfl
            · by_cases h6 : x = 714
              · subst h6; rfl
              · simp only [if_neg h1, if_neg h2, if_neg h3, if_neg h4, if_neg h5, if_neg h6]
theorem lwM_710 (M : Mm) (c g q r m n z : Nat → Int32) : va_up (lwM M c g q r m n) 710 z = lwM M c z q r m n := by
  funext x
  by_cases h : x = 710
  · subst h; rw [va_up_self]; rfl
  · rw [va_up_ne _ _ h]; unfold lwM
    by_cases h1 : x = 709
    · subst h1; rfl
    · by_cases h2 : x = 710
      · exact absurd h2 h
      · by_cases h3 : x = 711
        · subst h3; rfl
        · by_cases h4 : x = 712
          · subst h4; rfl
          · by_cases h5 : x = 713
            · subst h5; rfl
            · by_cases h6 : x = 714
              · subst h6; rfl
              · simp only [if_neg h1, if_neg h2, if_neg h3, if_neg h4, if_neg h5, if_neg h6]
theorem lwM_711 (M : Mm) (c g q r m n z : Nat → Int32) : va_up (lwM M c g q r m n) 711 z = lwM M c g z r m n := by
  funext x
  by_cases h : x = 711
  · subst h; rw [va_up_self]; rfl
  · rw [va_up_ne _ _ h]; unfold lwM
    by_cases h1 : x = 709
    · subst h1; rfl
    · by_cases h2 : x = 710
      · subst h2; rfl
      · by_cases h3 : x = 711
        · exact absurd h3 h
        · by_cases h4 : x = 712
          · subst h4; rfl
          · by_cases h5 : x = 713
            · subst h5; rfl
            · by_cases h6 : x = 714
              · subst h6; rfl
              · simp only [if_neg h1, if_neg h2, if_neg h3, if_neg h4, if_neg h5, if_neg h6]
theorem lwM_712 (M : Mm) (c g q r m n z : Nat → Int32) : va_up (lwM M c g q r m n) 712 z = lwM M c g q z m n := by
  funext x
  by_cases h : x = 712
  · subst h; rw [va_up_self]; rfl
  · rw [va_up_ne _ _ h]; unfold lwM
    by_cases h1 : x = 709
    · subst h1; rfl
    · by_cases h2 : x = 710
      · subst h2; rfl
      · by_cases h3 : x = 711
        · subst h3; rfl
        · by_cases h4 : x = 712
          · exact absurd h4 h
          · by_cases h5 : x = 713
            · subst h5; rfl
            · by_cases h6 : x = 714
              · subst h6; rfl
              · simp only [if_neg h1, if_neg h2, if_neg h3, if_neg h4, if_neg h5, if_neg h6]
theorem lwM_713 (M : Mm) (c g q r m n z : Nat → Int32) : va_up (lwM M c g q r m n) 713 z = lwM M c g q r z n := by
  funext x
  by_cases h : x = 713
  · subst h; rw [va_up_self]; rfl
  · rw [va_up_ne _ _ h]; unfold lwM
    by_cases h1 : x = 709
    · subst h1; rfl
    · by_cases h2 : x = 710
      · subst h2; rfl
      · by_cases h3 : x = 711
        · subst h3; rfl
        · by_cases h4 : x = 712
          · subst h4; rfl
          · by_cases h5 : x = 713
            · exact absurd h5 h
            · by_cases h6 : x = 714
              · subst h6; rfl
              · simp only [if_neg h1, if_neg h2, if_neg h3, if_neg h4, if_neg h5, if_neg h6]
theorem lwM_714 (M : Mm) (c g q r m n z : Nat → Int32) : va_up (lwM M c g q r m n) 714 z = lwM M c g q r m z := by
  funext x
  by_cases h : x = 714
  · subst h; rw [va_up_self]; rfl
  · rw [va_up_ne _ _ h]; unfold lwM
    by_cases h1 : x = 709
    · subst h1; rfl
    · by_cases h2 : x = 710
      · subst h2; rfl
      · by_cases h3 : x = 711
        · subst h3; rfl
        · by_cases h4 : x = 712
          · subst h4; rfl
          · by_cases h5 : x = 713
            · subst h5; rfl
            · by_cases h6 : x = 714
              · exact absurd h6 h
              · simp only [if_neg h1, if_neg h2, if_neg h3, if_neg h4, if_neg h5, if_neg h6]
theorem lwS_709 (M : Mm) (c g q r m n : Nat → Int32) (j : Nat) (x : Int32) : va_up (lwM M c g q r m n) 709 (upd ((lwM M c g q r m n) 709) j x) = lwM M (upd c j x) g q r m n := lwM_709 M c g q r m n (upd c j x)
theorem lwS_710 (M : Mm) (c g q r m n : Nat → Int32) (j : Nat) (x : Int32) : va_up (lwM M c g q r m n) 710 (upd ((lwM M c g q r m n) 710) j x) = lwM M c (upd g j x) q r m n := lwM_710 M c g q r m n (upd g j x)
theorem lwS_711 (M : Mm) (c g q r m n : Nat → Int32) (j : Nat) (x : Int32) : va_up (lwM M c g q r m n) 711 (upd ((lwM M c g q r m n) 711) j x) = lwM M c g (upd q j x) r m n := lwM_711 M c g q r m n (upd q j x)
theorem lwS_712 (M : Mm) (c g q r m n : Nat → Int32) (j : Nat) (x : Int32) : va_up (lwM M c g q r m n) 712 (upd ((lwM M c g q r m n) 712) j x) = lwM M c g q (upd r j x) m n := lwM_712 M c g q r m n (upd r j x)
theorem lwS_713 (M : Mm) (c g q r m n : Nat → Int32) (j : Nat) (x : Int32) : va_up (lwM M c g q r m n) 713 (upd ((lwM M c g q r m n) 713) j x) = lwM M c g q r (upd m j x) n := lwM_713 M c g q r m n (upd m j x)
theorem lwS_714 (M : Mm) (c g q r m n : Nat → Int32) (j : Nat) (x : Int32) : va_up (lwM M c g q r m n) 714 (upd ((lwM M c g q r m n) 714) j x) = lwM M c g q r m (upd n j x) := lwM_714 M c g q r m n (upd n j x)
/-- chimneys as the row has them; the sky; observers -/
def LC (c f : Nat → Int32) : Prop := ∀ j, j < 32 → c j = f j
def LG (g f : Nat → Int32) : Prop := ∀ h, h < 24 → g h = f (32 + h)
def LQ (q f : Nat → Int32) : Prop := ∀ e, e < 3 → q e = f (56 + e) ∧ q (3 + e) = f (59 + e) ∧ q (6 + e) = f (62 + e)
/-- the turns and beginnings are as they may be -/
def SH (f : Nat → Int32) : Prop := ∀ c, c < 8 → ∃ a g, 2 ≤ a ∧ a ≤ 12 ∧ g ≤ 11 ∧ f (16 + c) = nI a ∧ f (24 + c) = nI g
theorem sh_lt {f : Nat → Int32} {k t g : Nat} (ht : t < 96) (hg : g ≤ 11) (eg : f (24 + k) = nI g) (h : t < g) : 0 = shR f k (nI t) := by
  unfold shR
  rw [eg, if_pos (pk_sneg (by omega) h)]
theorem sh_ge {c f : Nat → Int32} {k t a g : Nat} {V0 V1 : Int32} (hC : LC c f) (hk : k < 8) (ht : t < 96) (ha : 2 ≤ a) (ha2 : a ≤ 12) (hg : g ≤ 11) (ea : f (16 + k) = nI a) (eg : f (24 + k) = nI g) {N : Nat} (hN : N = (t - g) / a) (hN3 : g ≤ t → g + N * a ≤ t) (h : g ≤ t) (hV0 : (c k + 1) / 2 + c (8 + k) = V0) (hV1 : V0 - (nI t - nI (g + N * a)) = V1) : shR f k (nI t) = if V1 < 0 then 0 else if 5 < V1 then 5 else V1 := by
  have e1 : nI t - nI g = nI (t - g) := pk_sub h
  have e3 : (t - g) % a = t - (g + N * a) := by
    have := Nat.div_add_mod (t - g) a
    rw [Nat.mul_comm, ← hN] at this
    omega
  have e2 : shr0 f k (nI t) = V1 := by
    unfold shr0
    rw [eg, ea, e1, pk_rem (by omega) (by omega) (by omega), e3, ← hV1, ← hV0, hC k (by omega), hC (8 + k) (by omega), Nat.zero_add, pk_sub (hN3 h)]
  unfold shR
  rw [e2, eg, e1, if_neg (nI_pos (by omega))]
theorem sh_r2 {x v : Int32} (e : x = if v < 0 then 0 else if 5 < v then 5 else v) (h2 : ¬ 0 ≤ v) : 0 = x := by rw [e, if_pos (Int32.not_le.mp h2)]
theorem sh_r3 {x v : Int32} (e : x = if v < 0 then 0 else if 5 < v then 5 else v) (h2 : 0 ≤ v) (h3 : v ≤ 5) : v = x := by rw [e, if_neg (Int32.not_lt.mpr h2), if_neg (Int32.not_lt.mpr h3)]
theorem sh_r4 {x v : Int32} (e : x = if v < 0 then 0 else if 5 < v then 5 else v) (h2 : 0 ≤ v) (h3 : ¬ v ≤ 5) : 5 = x := by rw [e, if_neg (Int32.not_lt.mpr h2), if_pos (Int32.not_le.mp h3)]

abbrev rmL_low : Room := { frames := 0, cells := 0, slots := 0, locals := 0 }
set_option maxHeartbeats 4000000 in
set_option maxRecDepth 100000 in
/-- the remainder of a number without its sign -/
theorem kL_low (l : Launch) {M : Mm} (x : Int32) (n : Nat) (hn : 0 < n) (hn2 : n < 2 ^ 31) : Ct l yL_low wsL_low rmL_low (fun B => [.int x, .int (nI n)]) M (fun _ v u => (∃ j, j < n ∧ v = some (.int (nI j))) ∧ u = M) := by
  refine Ct.ofI (own := RL) (by decide +kernel) rfl rfl (fun B => Nat.le_of_ble_eq_true rfl) ?_
  intro pp ee ss mm aa bb me c9 DD ca B Tl AA QQ F K
  show G pp l ee rmL_low ss mm aa bb me c9 QQ DD ca B Tl AA 2 0 0 M 0 [(0, .int x), (1, .int (nI n))] []
  refine g_iload_n F dL_low_0 rfl 0 rfl ?_
  refine g_ldc F (v := 2147483647) (by decide +kernel) dL_low_1 ?_
  refine g_iand F dL_low_3 ?_
  obtain ⟨y, hy, ey⟩ := pk_andE x (m := 2147483647) 31 (by decide)
  refine g_top (y := nI y) ey ?_
  refine g_iload_n F dL_low_4 rfl 1 rfl ?_
  refine g_irem F dL_low_5 (nI_ne0 hn hn2) ?_
  refine g_top (pk_rem (a := y) (d := n) (by omega) (by omega) (by omega)) ?_
  exact K _ _ _ _ dL_low_6 rfl ⟨⟨y % n, Nat.mod_lt _ hn, rfl⟩, rfl⟩

abbrev rmL_shade : Room := { frames := 0, cells := 0, slots := 0, locals := 0 }
set_option maxHeartbeats 4000000 in
set_option maxRecDepth 100000 in
theorem kL_shade (l : Launch) {M : Mm} {f : Nat → Int32} {k t : Nat} (hC : LC (M 709) f) (hS : SH f) (hk : k < 8) (ht : t < 96) : Ct l yL_shade wsL_shade rmL_shade (fun B => [.int (nI k), .int (nI t), .ref (B + 709)]) M (fun _ v u => v = some (.int (shR f k (nI t))) ∧ u = M) := by
  refine Ct.ofI (own := RL) (by decide +kernel) rfl rfl (fun B => Nat.le_of_ble_eq_true rfl) ?_
  intro pp ee ss mm aa bb me c9 DD ca B Tl AA QQ F K
  show G pp l ee rmL_shade ss mm aa bb me c9 QQ DD ca B Tl AA 5 0 0 M 0 [(0, .int (nI k)), (1, .int (nI t)), (2, .ref (B + 709))] []
  obtain ⟨a, g, ha, ha2, hg, ea, eg⟩ := hS k hk
  have ea9 : M 709 (16 + k) = nI a := (hC _ (by omega)).trans ea
  have eg9 : M 709 (24 + k) = nI g := (hC _ (by omega)).trans eg
  obtain ⟨N, hN⟩ : ∃ N, N = (t - g) / a := ⟨_, rfl⟩
  have hN0 : N * a ≤ t - g := by rw [hN]; exact Nat.div_mul_le_self (t - g) a
  have hN1 : t < g + N * a + a := by have := Nat.lt_div_mul_add (a := t - g) (b := a) (by omega); rw [← hN] at this; omega
  have hN2 : ∀ i, i < N → g + i * a + a ≤ t := fun i hi => by have h1 : (i + 1) * a ≤ N * a := Nat.mul_le_mul_right a hi; rw [Nat.add_mul, Nat.one_mul] at h1; omega
  have hN3 : g ≤ t → g + N * a ≤ t := fun h => by omega
  have hN4 : g + N * a ≤ 200 := by omega
  refine g_aload_n F dL_shade_0 rfl 2 rfl ?_
  refine g_iload_n F dL_shade_1 rfl 0 rfl ?_
  refine g_iaload (r := 709) F a709 (k) rfl (by omega) (by decide) dL_shade_2 ?_
  refine g_iconst F (v := 1) dL_shade_3 (by decide) ?_
  refine g_iadd F dL_shade_4 ?_
  refine g_iconst F (v := 2) dL_shade_5 (by decide) ?_
  refine g_idiv F dL_shade_6 (by decide) ?_
  refine g_aload_n F dL_shade_7 rfl 2 rfl ?_
  refine g_bipush F (v := 8) dL_shade_8 (by decide +kernel) ?_
  refine g_iload_n F dL_shade_10 rfl 0 rfl ?_
  refine g_iadd F dL_shade_11 ?_
  refine g_top (nI_add (8) (k)) ?_
  refine g_iaload (r := 709) F a709 ((8 + k)) rfl (by omega) (by decide) dL_shade_12 ?_
  refine g_iadd F dL_shade_13 ?_
  generalize hV0 : (M 709 k + 1) / 2 + M 709 (8 + k) = V0
  refine g_istore_n F (lv2 := [(3, _), (0, _), (1, _), (2, _)]) dL_shade_14 rfl (by decide) rfl ?_
  refine g_aload_n F dL_shade_15 rfl 3 rfl ?_
  refine g_bipush F (v := 24) dL_shade_16 (by decide +kernel) ?_
  refine g_iload_n F dL_shade_18 rfl 1 rfl ?_
  refine g_iadd F dL_shade_19 ?_
  refine g_top (nI_add (24) (k)) ?_
  refine g_iaload (r := 709) F a709 ((24 + k)) rfl (by omega) (by decide) dL_shade_20 ?_
  refine g_top (y := nI g) eg9 ?_
  refine g_istore F (lv2 := [(4, _), (3, _), (0, _), (1, _), (2, _)]) dL_shade_21 (by decide) rfl ?_
  have LP : ∀ (niq iq : Nat), iq + niq = N → G pp l ee rmL_shade ss mm aa bb me c9 QQ DD ca B Tl AA 5 0 0 (M) 23 [(4, .int (nI (g + iq * a))), (3, .int V0), (0, .int (nI k)), (1, .int (nI t)), (2, .ref (B + 709))] [] := by
    intro niq
    induction niq with
    | zero =>
      intro iq hniq
      obtain rfl : iq = N := by omega
      refine g_iload F dL_shade_23 0 rfl ?_
      refine g_aload_n F dL_shade_25 rfl 4 rfl ?_
      refine g_bipush F (v := 16) dL_shade_26 (by decide +kernel) ?_
      refine g_iload_n F dL_shade_28 rfl 2 rfl ?_
      refine g_iadd F dL_shade_29 ?_
      refine g_top (nI_add (16) (k)) ?_
      refine g_iaload (r := 709) F a709 ((16 + k)) rfl (by omega) (by decide) dL_shade_30 ?_
      refine g_top (y := nI a) ea9 ?_
      refine g_iadd F dL_shade_31 ?_
      refine g_top (nI_add ((g + iq * a)) (a)) ?_
      refine g_iload_n F dL_shade_32 rfl 3 rfl ?_
      refine g_icmpN_gt F 50 dL_shade_33 (by decide) (((g + iq * a) + a)) (t) rfl rfl (by omega) (by omega) (fun hciq => ?_) (fun hciq => ?_)
      · refine g_iload_n F dL_shade_50 rfl 1 rfl ?_
        refine g_iload_n F dL_shade_51 rfl 3 rfl ?_
        refine g_iload F dL_shade_52 0 rfl ?_
        refine g_isub F dL_shade_54 ?_
        refine g_isub F dL_shade_55 ?_
        generalize hV1 : V0 - (nI t - nI (g + iq * a)) = V1
        refine g_istore_n F (lv2 := [(3, _), (4, _), (0, _), (1, _), (2, _)]) dL_shade_56 rfl (by decide) rfl ?_
        refine g_iload_n F dL_shade_57 rfl 3 rfl ?_
        refine g_aload_n F dL_shade_58 rfl 4 rfl ?_
        refine g_bipush F (v := 24) dL_shade_59 (by decide +kernel) ?_
        refine g_iload_n F dL_shade_61 rfl 2 rfl ?_
        refine g_iadd F dL_shade_62 ?_
        refine g_top (nI_add (24) (k)) ?_
        refine g_iaload (r := 709) F a709 ((24 + k)) rfl (by omega) (by decide) dL_shade_63 ?_
        refine g_top (y := nI g) eg9 ?_
        refine g_icmpN_lt F 71 dL_shade_64 (by decide) (t) (g) rfl rfl (by omega) (by omega) (fun h1 => ?_) (fun h1 => ?_)
        · refine g_iconst F (v := 0) dL_shade_71 (by decide) ?_
          refine g_goto F 85 dL_shade_72 (by decide) ?_
          exact K _ _ _ _ dL_shade_85 rfl ⟨congrArg (fun z => some (Value.int z)) (by first | exact sh_lt ht hg eg h1 | exact sh_r2 (sh_ge hC hk ht ha ha2 hg ea eg hN hN3 h1 hV0 hV1) h2 | exact sh_r3 (sh_ge hC hk ht ha ha2 hg ea eg hN hN3 h1 hV0 hV1) h2 h3 | exact sh_r4 (sh_ge hC hk ht ha ha2 hg ea eg hN hN3 h1 hV0 hV1) h2 h3), rfl⟩
        · refine g_iload_n F dL_shade_67 rfl 0 rfl ?_
          refine g_if_ge F 75 dL_shade_68 (by decide) (fun h2 => ?_) (fun h2 => ?_)
          · refine g_iload_n F dL_shade_75 rfl 0 rfl ?_
            refine g_iconst F (v := 5) dL_shade_76 (by decide) ?_
            refine g_icmp_le F 84 dL_shade_77 (by decide) (fun h3 => ?_) (fun h3 => ?_)
            · refine g_iload_n F dL_shade_84 rfl 0 rfl ?_
              exact K _ _ _ _ dL_shade_85 rfl ⟨congrArg (fun z => some (Value.int z)) (by first | exact sh_lt ht hg eg h1 | exact sh_r2 (sh_ge hC hk ht ha ha2 hg ea eg hN hN3 h1 hV0 hV1) h2 | exact sh_r3 (sh_ge hC hk ht ha ha2 hg ea eg hN hN3 h1 hV0 hV1) h2 h3 | exact sh_r4 (sh_ge hC hk ht ha ha2 hg ea eg hN hN3 h1 hV0 hV1) h2 h3), rfl⟩
            · refine g_iconst F (v := 5) dL_shade_80 (by decide) ?_
              refine g_goto F 85 dL_shade_81 (by decide) ?_
              exact K _ _ _ _ dL_shade_85 rfl ⟨congrArg (fun z => some (Value.int z)) (by first | exact sh_lt ht hg eg h1 | exact sh_r2 (sh_ge hC hk ht ha ha2 hg ea eg hN hN3 h1 hV0 hV1) h2 | exact sh_r3 (sh_ge hC hk ht ha ha2 hg ea eg hN hN3 h1 hV0 hV1) h2 h3 | exact sh_r4 (sh_ge hC hk ht ha ha2 hg ea eg hN hN3 h1 hV0 hV1) h2 h3), rfl⟩
          · refine g_iconst F (v := 0) dL_shade_71 (by decide) ?_
            refine g_goto F 85 dL_shade_72 (by decide) ?_
            exact K _ _ _ _ dL_shade_85 rfl ⟨congrArg (fun z => some (Value.int z)) (by first | exact sh_lt ht hg eg h1 | exact sh_r2 (sh_ge hC hk ht ha ha2 hg ea eg hN hN3 h1 hV0 hV1) h2 | exact sh_r3 (sh_ge hC hk ht ha ha2 hg ea eg hN hN3 h1 hV0 hV1) h2 h3 | exact sh_r4 (sh_ge hC hk ht ha ha2 hg ea eg hN hN3 h1 hV0 hV1) h2 h3), rfl⟩
      · exact absurd hciq (by omega)
    | succ niq ihiq =>
      intro iq hniq
      have hi8 : g + iq * a + a ≤ t := hN2 iq (by omega)
      refine g_iload F dL_shade_23 0 rfl ?_
      refine g_aload_n F dL_shade_25 rfl 4 rfl ?_
      refine g_bipush F (v := 16) dL_shade_26 (by decide +kernel) ?_
      refine g_iload_n F dL_shade_28 rfl 2 rfl ?_
      refine g_iadd F dL_shade_29 ?_
      refine g_top (nI_add (16) (k)) ?_
      refine g_iaload (r := 709) F a709 ((16 + k)) rfl (by omega) (by decide) dL_shade_30 ?_
      refine g_top (y := nI a) ea9 ?_
      refine g_iadd F dL_shade_31 ?_
      refine g_top (nI_add ((g + iq * a)) (a)) ?_
      refine g_iload_n F dL_shade_32 rfl 3 rfl ?_
      refine g_icmpN_gt F 50 dL_shade_33 (by decide) (((g + iq * a) + a)) (t) rfl rfl (by omega) (by omega) (fun hciq => ?_) (fun hciq => ?_)
      · exact absurd hciq (by omega)
      · refine g_iload F dL_shade_36 0 rfl ?_
        refine g_aload_n F dL_shade_38 rfl 4 rfl ?_
        refine g_bipush F (v := 16) dL_shade_39 (by decide +kernel) ?_
        refine g_iload_n F dL_shade_41 rfl 2 rfl ?_
        refine g_iadd F dL_shade_42 ?_
        refine g_top (nI_add (16) (k)) ?_
        refine g_iaload (r := 709) F a709 ((16 + k)) rfl (by omega) (by decide) dL_shade_43 ?_
        refine g_top (y := nI a) ea9 ?_
        refine g_iadd F dL_shade_44 ?_
        refine g_top (nI_add ((g + iq * a)) (a)) ?_
        refine g_istore F (lv2 := [(4, _), (3, _), (0, _), (1, _), (2, _)]) dL_shade_45 (by decide) rfl ?_
        refine g_goto F 23 dL_shade_47 (by decide) ?_
        refine g_lv (lv2 := [(4, _), (3, _), (0, _), (1, _), (2, _)]) [0, 1, 2, 3, 4] rfl ?_
        exact g_is rfl (by rw [show g + iq * a + a = g + (iq + 1) * a by rw [Nat.add_mul]; omega]) (ihiq (iq + 1) (by omega))
  refine g_lv (lv2 := [(4, _), (3, _), (0, _), (1, _), (2, _)]) [0, 1, 2, 3, 4] rfl ?_
  exact g_is rfl (by rw [Nat.zero_mul]; rfl) (LP (N - 0) (0) (by omega))
