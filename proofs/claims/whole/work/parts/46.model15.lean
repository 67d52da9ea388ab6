theorem mnI_c (x : Int64) : ∀ i, ∃ c, c ≤ i ∧ mnI x i = nI c
  | 0 => ⟨0, Nat.le_refl _, rfl⟩
  | i + 1 => by
    obtain ⟨c, hc, e⟩ := mnI_c x i
    unfold mnI
    rw [e]
    split
    · exact ⟨c, by omega, nI_add c 0⟩
    · exact ⟨c + 1, by omega, nI_add c 1⟩
theorem hmF_c {x : Int64} (h : ¬ hmF x = 0) : ∃ c, 1 ≤ c ∧ c ≤ 8 ∧ hmF x = nI c := by
  by_cases d : isI x 8 = 0
  · exact absurd (hmF_0 d) h
  · obtain ⟨c, hc, e⟩ := mnI_c x 8
    have e1 := (hmF_1 d).trans e
    refine ⟨c, Nat.one_le_iff_ne_zero.mpr (fun z => h ?_), hc, e1⟩
    rw [e1, z]; rfl
def ctR (x : Int64) (y : Int32) : Int32 := (x.toUInt64 >>> (y.toInt64.toUInt64 &&& Int64.toUInt64 63)).toInt64.toInt32 &&& 255
def wtR (x : Int64) (c L : Nat) (f : Nat → Int32) : Nat → Nat → Int32
  | 0 => f
  | i + 1 => upd (wtR x c L f i) (L + i) (ctR x (nI (8 * (c - i)) - 8))
theorem d8_ {c i : Nat} (h : i < c) : nI (8 * (c - i)) - 8 = nI (8 * (c - (i + 1))) := by
  have e := pk_sub (a := 8 * (c - i)) (b := 8) (by omega)
  rw [show 8 * (c - (i + 1)) = 8 * (c - i) - 8 by omega]; exact e
theorem d8_1 (x : Int32) : x + Int32.ofInt (-8) = x - 8 := by rw [Int32.sub_eq_add_neg]; rfl
theorem d8_z {c i : Nat} (h : c - i = 0) : nI (8 * (c - i)) - 8 < 0 := by rw [h]; decide
theorem d8_p {c i : Nat} (h : i < c) (hc : c ≤ 8) : ¬ nI (8 * (c - i)) - 8 < 0 := by rw [d8_ h]; exact nI_pos (by omega)
theorem ap2 (M : Mm) (A g : Nat → Int32) (k : Nat) (v y : Int32) : va_up (va_up (va_up (va_up M 715 A) 709 g) 715 (upd (va_up (va_up M 715 A) 709 g 715) k v)) 709 (upd (va_up (va_up (va_up M 715 A) 709 g) 715 (upd (va_up (va_up M 715 A) 709 g 715) k v) 709) 8 y) = va_up (va_up M 715 (upd A k v)) 709 (upd g 8 y) := by
  funext j
  by_cases h1 : j = 709
  · subst h1; simp [va_up]
  · by_cases h2 : j = 715
    · subst h2; simp [va_up]
    · simp [va_up, h1, h2]
def wtM (M : Mm) (x : Int64) (c L i : Nat) : Mm := va_up (va_up (thM M 0) 715 (wtR x c L (M 715) i)) 709 (upd (thM M 0 709) 8 (nI (L + i)))

abbrev rmX9_put : Room := { frames := 2, cells := 0, slots := 0, locals := 48 }
theorem iX9_put_9 : ∀ w ∈ u_ws RX9 TX9 15, w ∈ wsX9_put := by decide +kernel
set_option maxHeartbeats 200000 in
set_option maxRecDepth 100000 in
theorem kX9_put (l : Launch) {M : Mm} {L : Nat} (hL60 : L ≤ 60) (hL : M 709 8 = nI L) (x : Int64) : Ct l yX9_put wsX9_put rmX9_put (fun B => [.ref (B + 709), .long x]) M (fun _ v u => hmF x = 0 ∧ v = some (.int (0)) ∧ u = thM M 1 ∨ ∃ c, 1 ≤ c ∧ c ≤ 8 ∧ hmF x = nI c ∧ (60 < L + c ∧ v = some (.int (0)) ∧ u = thM M 2 ∨ L + c ≤ 60 ∧ v = some (.int (nI (L + c))) ∧ u = wtM M x c L c)) := by
  refine Ct.ofI (own := RX9) (by decide +kernel) rfl rfl (fun B => Nat.le_of_ble_eq_true rfl) ?_
  intro pp ee ss mm aa bb me c9 DD ca B Tl AA QQ F K
  show G pp l ee rmX9_put ss mm aa bb me c9 QQ DD ca B Tl AA 5 0 0 M 0 [(0, .ref (B + 709)), (1, .long x)] []
  refine g_aload_n F dX9_put_0 rfl 0 rfl ?_
  refine g_iconst F (v := 0) dX9_put_1 (by decide) ?_
  refine gp9_thrown F iX9_put_9 r709 (by decide +kernel) dX9_put_2 ?_
  refine g_mem (show va_up M 709 (upd (M 709) 0 0) = thM M 0 from rfl) ?_
  refine g_lload_n F dX9_put_5 rfl 1 rfl ?_
  refine g_callS F (kX9_howMany l _) (va_cwS 1 F.1.2.2.2.2 gX9_put_X9_howMany rfl rfl rfl (by decide +kernel) ⟨Nat.le_of_ble_eq_true rfl, Nat.le_of_ble_eq_true rfl⟩) rfl rfl rfl (Nat.le_of_ble_eq_true rfl) dX9_put_6 ⟨Nat.le_of_ble_eq_true rfl, Nat.le_of_ble_eq_true rfl⟩ (g_det ?_)
  refine g_istore_n F (lv2 := [(3, _), (0, _), (1, _)]) dX9_put_9 rfl (by decide) rfl ?_
  refine g_iload_n F dX9_put_10 rfl 0 rfl ?_
  refine g_if_ne F 20 dX9_put_11 (by decide) (fun h1 => ?_) (fun h1 => ?_)
  · obtain ⟨c, hc1, hc8, ec⟩ := hmF_c h1
    rw [ec]
    refine g_aload_n F dX9_put_20 rfl 1 rfl ?_
    refine gg9_length F iX9_put_9 r709 (by decide +kernel) dX9_put_21 ?_
    refine g_top (y := nI L) hL ?_
    refine g_iload_n F dX9_put_24 rfl 0 rfl ?_
    refine g_iadd F dX9_put_25 ?_
    refine g_top (nI_add (L) (c)) ?_
    refine g_bipush F (v := 60) dX9_put_26 (by decide +kernel) ?_
    refine g_icmpN_le F 37 dX9_put_28 (by decide) ((L + c)) (60) rfl rfl (by omega) (by omega) (fun h2 => ?_) (fun h2 => ?_)
    · refine g_bipush F (v := 8) dX9_put_37 (by decide +kernel) ?_
      refine g_iload_n F dX9_put_39 rfl 0 rfl ?_
      refine g_imul F dX9_put_40 ?_
      refine g_top (pk_mul (8) (c)) ?_
      refine g_bipush F (v := 8) dX9_put_41 (by decide +kernel) ?_
      refine g_isub F dX9_put_43 ?_
      refine g_istore F (lv2 := [(4, _), (3, _), (0, _), (1, _)]) dX9_put_44 (by decide) rfl ?_
      have LP : ∀ (ni i : Nat), i + ni = c → G pp l ee rmX9_put ss mm aa bb me c9 QQ DD ca B Tl AA 5 0 0 (wtM M x c L i) 46 [(4, .int (nI (8 * (c - i)) - 8)), (0, .ref (B + 709)), (1, .long x), (3, .int (nI c))] [] := by
        intro ni
        induction ni with
        | zero =>
          intro i hni
          refine g_iload F dX9_put_46 0 rfl ?_
          refine g_if_lt F 85 dX9_put_48 (by decide) (fun h3 => ?_) (fun h3 => ?_)
          · obtain rfl : c = i := by omega
            refine g_aload_n F dX9_put_85 rfl 1 rfl ?_
            refine gg9_length F iX9_put_9 r709 (by decide +kernel) dX9_put_86 ?_
            refine g_top (y := nI (L + c)) (by rfl) ?_
            exact K _ _ _ _ dX9_put_89 rfl (Or.inr ⟨c, hc1, hc8, ec, Or.inr ⟨by omega, rfl, rfl⟩⟩)
          · exact absurd (d8_z (by omega)) h3
        | succ ni ihi =>
          intro i hni
          refine g_iload F dX9_put_46 0 rfl ?_
          refine g_if_lt F 85 dX9_put_48 (by decide) (fun h3 => ?_) (fun h3 => ?_)
          · exact absurd h3 (d8_p (by omega) (by omega))
          · refine g_aload_n F dX9_put_51 rfl 1 rfl ?_
            refine gg9_text F iX9_put_9 r709 (by decide +kernel) dX9_put_52 ?_
            refine g_aload_n F dX9_put_55 rfl 1 rfl ?_
            refine gg9_length F iX9_put_9 r709 (by decide +kernel) dX9_put_56 ?_
            refine g_top (y := nI (L + i)) (by rfl) ?_
            refine g_lload_n F dX9_put_59 rfl 2 rfl ?_
            refine g_iload F dX9_put_60 0 rfl ?_
            refine g_lushr F dX9_put_62 ?_
            refine g_l2i F dX9_put_63 ?_
            refine g_sipush F (v := 255) dX9_put_64 (by decide +kernel) ?_
            refine g_iand F dX9_put_67 ?_
            refine g_iastore (r := 715) F a715 ((L + i)) rfl (by omega) (by decide) dX9_put_68 ?_
            refine g_aload_n F dX9_put_69 rfl 1 rfl ?_
            refine g_dup F dX9_put_70 rfl ?_
            refine gg9_length F iX9_put_9 r709 (by decide +kernel) dX9_put_71 ?_
            refine g_top (y := nI (L + i)) (by rfl) ?_
            refine g_iconst F (v := 1) dX9_put_74 (by decide) ?_
            refine g_iadd F dX9_put_75 ?_
            refine g_top (nI_add ((L + i)) (1)) ?_
            refine gp9_length F iX9_put_9 r709 (by decide +kernel) dX9_put_76 ?_
            refine g_iinc F (lv2 := [(4, _), (0, _), (1, _), (3, _)]) dX9_put_79 0 rfl rfl (by decide) rfl ?_
            refine g_goto F 46 dX9_put_82 (by decide) ?_
            refine g_lv (lv2 := [(4, _), (0, _), (1, _), (3, _)]) [0, 1, 2, 3] rfl ?_
            exact g_is (by refine (ap2 _ _ _ _ _ _).trans ?_; rw [upd2]; rfl) (by rw [d8_1, d8_ (show i < c by omega)]) (ihi (i + 1) (by omega))
      refine g_lv (lv2 := [(4, _), (0, _), (1, _), (3, _)]) [0, 2, 3, 1] rfl ?_
      exact g_is (by unfold wtM; rw [Nat.add_zero, ← show thM M 0 709 8 = nI L from hL, upd_id]; funext j; by_cases q1 : j = 709; (subst q1; rfl); by_cases q2 : j = 715; (subst q2; rfl); rw [va_up_ne _ _ q1, va_up_ne _ _ q2]) rfl (LP (c - 0) (0) (by omega))
    · refine g_aload_n F dX9_put_31 rfl 1 rfl ?_
      refine g_iconst F (v := 2) dX9_put_32 (by decide) ?_
      refine g_callV F (kX9_fails l _) (cwV 1 F.1.2.2.2.2 gX9_put_X9_fails rfl rfl rfl (by decide +kernel) ⟨Nat.le_of_ble_eq_true rfl, Nat.le_of_ble_eq_true rfl⟩) r709 (by decide) rfl rfl rfl rfl (Nat.le_of_ble_eq_true rfl) dX9_put_33 ⟨Nat.le_of_ble_eq_true rfl, Nat.le_of_ble_eq_true rfl⟩ (g_det ?_)
      refine g_mem (thM_2 M 0 _) ?_
      exact K _ _ _ _ dX9_put_36 rfl (Or.inr ⟨c, hc1, hc8, ec, Or.inl ⟨by omega, rfl, rfl⟩⟩)
  · refine g_aload_n F dX9_put_14 rfl 1 rfl ?_
    refine g_iconst F (v := 1) dX9_put_15 (by decide) ?_
    refine g_callV F (kX9_fails l _) (cwV 1 F.1.2.2.2.2 gX9_put_X9_fails rfl rfl rfl (by decide +kernel) ⟨Nat.le_of_ble_eq_true rfl, Nat.le_of_ble_eq_true rfl⟩) r709 (by decide) rfl rfl rfl rfl (Nat.le_of_ble_eq_true rfl) dX9_put_16 ⟨Nat.le_of_ble_eq_true rfl, Nat.le_of_ble_eq_true rfl⟩ (g_det ?_)
    refine g_mem (thM_2 M 0 _) ?_
    exact K _ _ _ _ dX9_put_19 rfl (Or.inl ⟨by first | exact h1 | exact Decidable.not_not.mp h1, rfl, rfl⟩)
