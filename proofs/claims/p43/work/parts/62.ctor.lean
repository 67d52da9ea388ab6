/-! fill and the constructors without loops -/
abbrev rmU7_fill : Room := { frames := 0, cells := 0, slots := 0, locals := 0 }
set_option maxHeartbeats 1000000 in
set_option maxRecDepth 100000 in
theorem uJ7_fill (l : Launch) {n r N : Nat} {f : Nat → Int32} {x : Int32} {C : (Nat → ClassId) → Nat → CE} (hr : r < n) (hN : N + 1 < 2 ^ 31) (hC : ∀ ca B, C ca B r = .inl (ca 11, N, .inl f)) : Cn l yJ7_fill_53178 wsJ7_fill_53178 rmU7_fill (fun B => [.ref (B + r), .int x]) n n C (fun ca B => va_up (C ca B) r (.inl (ca 11, N, .inl (fun _ => x)))) := by
  refine Cn.of (own := RJ7) (by decide +kernel) rfl rfl (fun B => Nat.le_of_ble_eq_true rfl) ?_
  intro p e s m args below meth c D ca B Q hnm hao F K
  show GC p l e rmU7_fill s m args below meth c Q D ca B (AB B) 4 0 0 n (C ca B) 0 [(0, .ref (B + r)), (1, .int x)] []
  refine gc_iconst F (v := nI 0) dJ7_fill_53178_0 (by decide) ?_
  refine gc_istore_n F (lv2 := [(2, _), (0, _), (1, _)]) dJ7_fill_53178_1 rfl (by decide) rfl ?_
  refine gc_aload_n F dJ7_fill_53178_2 rfl 1 rfl ?_
  refine gc_alen F hr (hC ca B) dJ7_fill_53178_3 ?_
  refine gc_istore_n F (lv2 := [(3, _), (2, _), (0, _), (1, _)]) dJ7_fill_53178_4 rfl (by decide) rfl ?_
  have LP : ∀ (k i : Nat), i + k = N → GC p l e rmU7_fill s m args below meth c Q D ca B (AB B) 4 0 0 n (va_up (C ca B) r (.inl (ca 11, N, .inl (fun j => if j < i then x else f j)))) 5 [(3, .int (nI N)), (2, .int (nI i)), (0, .ref (B + r)), (1, .int x)] [] := by
    intro k
    induction k with
    | zero =>
      intro i hi
      refine gc_iload_n F dJ7_fill_53178_5 rfl 1 rfl ?_
      refine gc_iload_n F dJ7_fill_53178_6 rfl 0 rfl ?_
      refine gc_icmpN_ge F 20 dJ7_fill_53178_7 (by decide) i N rfl rfl (by omega) (by omega) (fun _ => ?_) (fun hci => absurd hci (by omega))
      refine K _ _ _ dJ7_fill_53178_20 (fun q hq H z => ?_)
      by_cases h : q = r
      · subst h
        rw [va_up_self] at z ⊢
        exact at_i (fun j hj => if_pos (by omega)) z
      · rw [va_up_ne _ _ h] at z ⊢
        exact z
    | succ k ih =>
      intro i hi
      refine gc_iload_n F dJ7_fill_53178_5 rfl 1 rfl ?_
      refine gc_iload_n F dJ7_fill_53178_6 rfl 0 rfl ?_
      refine gc_icmpN_ge F 20 dJ7_fill_53178_7 (by decide) i N rfl rfl (by omega) (by omega) (fun hci => absurd hci (by omega)) (fun _ => ?_)
      refine gc_aload_n F dJ7_fill_53178_10 rfl 2 rfl ?_
      refine gc_iload_n F dJ7_fill_53178_11 rfl 1 rfl ?_
      refine gc_iload_n F dJ7_fill_53178_12 rfl 3 rfl ?_
      refine gc_iastore F hr (va_up_self _ _ _) i rfl (by omega) (by omega) dJ7_fill_53178_13 ?_
      refine gc_iinc F (lv2 := [(2, _), (3, _), (0, _), (1, _)]) dJ7_fill_53178_14 1 rfl (nI_1 _) (by decide) rfl ?_
      refine gc_goto F 5 dJ7_fill_53178_17 (by decide) ?_
      refine gc_lv (lv2 := [(3, _), (2, _), (0, _), (1, _)]) [1, 0, 2, 3] rfl ?_
      refine gc_eqv (fun q hq H z => ?_) (ih (i + 1) (by omega))
      by_cases h : q = r
      · subst h
        rw [va_up_self] at z ⊢
        refine at_i (fun j hj => ?_) z
        by_cases hj2 : j = i
        · subst hj2; rw [upd_at, if_pos (by omega)]
        · rw [upd_ne _ _ hj2]
          by_cases hj3 : j < i
          · rw [if_pos hj3, if_pos (by omega)]
          · rw [if_neg hj3, if_neg (by omega)]
      · rw [va_up_ne _ _ h] at z ⊢
        rw [va_up_ne _ _ h] at z
        exact z
  refine gc_eqv (fun q hq H z => ?_) (LP N 0 (by omega))
  by_cases h : q = r
  · subst h
    rw [va_up_self]
    rw [hC] at z
    exact at_i (fun j hj => (if_neg (by omega)).symm) z
  · rw [va_up_ne _ _ h]; exact z

abbrev rmX1_init : Room := { frames := 1, cells := 1, slots := 96, locals := 23 }
theorem iX1_init_1 : ∀ w ∈ u_ws RX1 TX1 1, w ∈ wsX1_init := by decide +kernel
set_option maxHeartbeats 1000000 in
set_option maxRecDepth 100000 in
theorem kX1_init (l : Launch) {r : Nat} {M : Mm} {C : (Nat → ClassId) → Nat → CE} (hr : isR 1 r) (hM : ∀ j, j < 96 → M (r + 1) j = -1) (hC : ∀ ca B, C ca B r = .inr (1, [.null])) : Cn l yX1_init wsX1_init rmX1_init (fun B => [.ref (B + r)]) (r + 1) (r + 2) C (fun ca B => fz ca B M r 2 (C ca B)) := by
  refine Cn.of (own := RX1) (by decide +kernel) rfl rfl (fun B => Nat.le_of_ble_eq_true rfl) ?_
  intro p e s m args below meth c D ca B Q hnm hao F K
  show GC p l e rmX1_init s m args below meth c Q D ca B (AB B) 1 0 0 (r + 1) (C ca B) 0 [(0, .ref (B + r))] []
  refine gc_aload_n F dX1_init_0 rfl 0 rfl ?_
  refine gc_obj F (by decide +kernel) (by decide +kernel) (by decide +kernel) dX1_init_1 (Nat.le_of_ble_eq_true rfl) (Nat.le_of_ble_eq_true rfl) ?_
  refine gc_aload_n F dX1_init_4 rfl 0 rfl ?_
  refine gc_bipush F (v := 96) dX1_init_5 (by decide) ?_
  refine gc_newa F 1 rfl rfl rfl rfl (by decide +kernel) 96 rfl (by decide) (by decide) (Nat.le_of_ble_eq_true rfl) (Nat.le_of_ble_eq_true rfl) dX1_init_7 ?_
  refine gc_put (ty := .array .int) F hnm iX1_init_1 tyX1 tyX1_ok nmX1 rfl (by omega) ((va_up_ne _ _ (by omega)).trans ((hC ca B))) 0 (by decide) (by decide +kernel) rfl rfl (by decide +kernel) rfl rfl (Nat.le_of_ble_eq_true rfl) dX1_init_9 ?_
  refine gc_eq (C2 := va_up (va_up (C ca B) (r) (.inr (1, [.ref (B + (r + 1))]))) (r + 1) (.inl (ca 11, 96, .inl (fun _ => 0)))) (fun q _ => by simp only [va_up, fz]; (repeat' split) <;> first | rfl | omega) ?_
  refine gc_aload_n F dX1_init_12 rfl 0 rfl ?_
  refine gc_get F iX1_init_1 rfl (by omega) ((va_up_ne _ _ (by omega)).trans (va_up_self _ _ _)) 0 (by decide) (by decide +kernel) rfl rfl dX1_init_13 ?_
  refine gc_iconst F (v := -1) dX1_init_16 (by decide) ?_
  refine gc_stat F hao (uJ7_fill l (n := r + 2) (r := r + 1) (N := 96) (x := -1) (C := fun ca B => va_up (va_up (C ca B) (r) (.inr (1, [.ref (B + (r + 1))]))) (r + 1) (.inl (ca 11, 96, .inl (fun _ => 0)))) (by omega) (by decide) (fun ca B => va_up_self _ _ _)) (va_cwS 2 F.1.2.2.2.2 gX1_init_J7_fill_53178 rfl rfl rfl (by decide +kernel) ⟨Nat.le_of_ble_eq_true rfl, Nat.le_of_ble_eq_true rfl⟩) (fun _ _ _ z => z) rfl rfl rfl (Nat.le_of_ble_eq_true rfl) dX1_init_17 ⟨Nat.le_of_ble_eq_true rfl, Nat.le_of_ble_eq_true rfl⟩ ?_
  refine gc_eq (C2 := va_up (va_up (C ca B) (r) (.inr (1, [.ref (B + (r + 1))]))) (r + 1) (.inl (ca 11, 96, .inl (fun _ => -1)))) (fun q _ => by simp only [va_up, fz]; (repeat' split) <;> first | rfl | omega) ?_
  refine gc_widen (k := rmX1_init.cells) (i := rmX1_init.slots) (Nat.le_of_ble_eq_true rfl) (Nat.le_of_ble_eq_true rfl) ?_
  refine K _ _ _ dX1_init_20 (fun q hq H z => ?_)
  by_cases h : r ≤ q ∧ q < r + 2
  · rw [fz_in h]
    rcases (show q = r ∨ q = r + 1 by omega) with e1 | e1
    · rw [e1] at z ⊢
      replace z : va_at D vwCl (B + (r), _) H := (show va_up (va_up (C ca B) (r) (.inr (1, [.ref (B + (r + 1))]))) (r + 1) (.inl (ca 11, 96, .inl (fun _ => -1))) (r) = _ from (va_up_ne _ _ (by omega)).trans (va_up_self _ _ _)) ▸ z
      rw [cel1 hr]; exact z
    · rw [e1] at z ⊢
      replace z : va_at D vwCl (B + (r + 1), _) H := (show va_up (va_up (C ca B) (r) (.inr (1, [.ref (B + (r + 1))]))) (r + 1) (.inl (ca 11, 96, .inl (fun _ => -1))) (r + 1) = _ from va_up_self _ _ _) ▸ z
      rw [cel11 (sb1 hr)]; exact at_i (fun j hj => (hM j hj).symm) z
  · rw [fz_out h]; exact (show (va_up (va_up (C ca B) (r) (.inr (1, [.ref (B + (r + 1))]))) (r + 1) (.inl (ca 11, 96, .inl (fun _ => -1)))) q = C ca B q from (va_up_ne _ _ (by omega)).trans ((va_up_ne _ _ (by omega)).trans (rfl))) ▸ z
abbrev rmX0_init : Room := { frames := 2, cells := 4, slots := 194, locals := 43 }
theorem iX0_init_0 : ∀ w ∈ u_ws RX0 TX0 8, w ∈ wsX0_init := by decide +kernel
theorem iX0_init_1 : ∀ w ∈ u_ws RX1 TX1 1, w ∈ wsX0_init := by decide +kernel
set_option maxHeartbeats 1000000 in
set_option maxRecDepth 100000 in
theorem kX0_init (l : Launch) {r : Nat} {M : Mm} {C : (Nat → ClassId) → Nat → CE} {b : Int32} (hr : isR 0 r) (h0 : M r 0 = 3) (h1 : M r 1 = 0) (h2 : M r 2 = 4) (h3 : M r 3 = b) (h4 : M r 4 = 0) (h5 : M r 5 = 0) (hA : ∀ j, j < 96 → M (r + 2) j = -1) (hB : ∀ j, j < 96 → M (r + 4) j = -1) (hC : ∀ ca B, C ca B r = .inr (0, [.int 0, .int 0, .int 0, .int 0, .int 0, .int 0, .null, .null])) : Cn l yX0_init wsX0_init rmX0_init (fun B => [.ref (B + r), .int b]) (r + 1) (r + 5) C (fun ca B => fz ca B M r 5 (C ca B)) := by
  refine Cn.of (own := RX0) (by decide +kernel) rfl rfl (fun B => Nat.le_of_ble_eq_true rfl) ?_
  intro p e s m args below meth c D ca B Q hnm hao F K
  show GC p l e rmX0_init s m args below meth c Q D ca B (AB B) 2 0 0 (r + 1) (C ca B) 0 [(0, .ref (B + r)), (1, .int b)] []
  refine gc_aload_n F dX0_init_0 rfl 0 rfl ?_
  refine gc_obj F (by decide +kernel) (by decide +kernel) (by decide +kernel) dX0_init_1 (Nat.le_of_ble_eq_true rfl) (Nat.le_of_ble_eq_true rfl) ?_
  refine gc_aload_n F dX0_init_4 rfl 0 rfl ?_
  refine gc_iconst F (v := 3) dX0_init_5 (by decide) ?_
  refine gc_put (ty := .int) F hnm iX0_init_0 tyX0 tyX0_ok nmX0 rfl (by omega) ((hC ca B)) 0 (by decide) (by decide +kernel) rfl rfl (by decide +kernel) rfl rfl (Nat.le_of_ble_eq_true rfl) dX0_init_6 ?_
  refine gc_eq (C2 := va_up (C ca B) (r) (.inr (0, [.int 3, .int 0, .int 0, .int 0, .int 0, .int 0, .null, .null]))) (fun q _ => by simp only [va_up, fz]; (repeat' split) <;> first | rfl | omega) ?_
  refine gc_aload_n F dX0_init_9 rfl 0 rfl ?_
  refine gc_iconst F (v := 0) dX0_init_10 (by decide) ?_
  refine gc_put (ty := .int) F hnm iX0_init_0 tyX0 tyX0_ok nmX0 rfl (by omega) (va_up_self _ _ _) 1 (by decide) (by decide +kernel) rfl rfl (by decide +kernel) rfl rfl (Nat.le_of_ble_eq_true rfl) dX0_init_11 ?_
  refine gc_eq (C2 := va_up (C ca B) (r) (.inr (0, [.int 3, .int 0, .int 0, .int 0, .int 0, .int 0, .null, .null]))) (fun q _ => by simp only [va_up, fz]; (repeat' split) <;> first | rfl | omega) ?_
  refine gc_aload_n F dX0_init_14 rfl 0 rfl ?_
  refine gc_iconst F (v := 4) dX0_init_15 (by decide) ?_
  refine gc_put (ty := .int) F hnm iX0_init_0 tyX0 tyX0_ok nmX0 rfl (by omega) (va_up_self _ _ _) 2 (by decide) (by decide +kernel) rfl rfl (by decide +kernel) rfl rfl (Nat.le_of_ble_eq_true rfl) dX0_init_16 ?_
  refine gc_eq (C2 := va_up (C ca B) (r) (.inr (0, [.int 3, .int 0, .int 4, .int 0, .int 0, .int 0, .null, .null]))) (fun q _ => by simp only [va_up, fz]; (repeat' split) <;> first | rfl | omega) ?_
  refine gc_aload_n F dX0_init_19 rfl 0 rfl ?_
  refine gc_iconst F (v := 0) dX0_init_20 (by decide) ?_
  refine gc_put (ty := .int) F hnm iX0_init_0 tyX0 tyX0_ok nmX0 rfl (by omega) (va_up_self _ _ _) 4 (by decide) (by decide +kernel) rfl rfl (by decide +kernel) rfl rfl (Nat.le_of_ble_eq_true rfl) dX0_init_21 ?_
  refine gc_eq (C2 := va_up (C ca B) (r) (.inr (0, [.int 3, .int 0, .int 4, .int 0, .int 0, .int 0, .null, .null]))) (fun q _ => by simp only [va_up, fz]; (repeat' split) <;> first | rfl | omega) ?_
  refine gc_aload_n F dX0_init_24 rfl 0 rfl ?_
  refine gc_iconst F (v := 0) dX0_init_25 (by decide) ?_
  refine gc_put (ty := .int) F hnm iX0_init_0 tyX0 tyX0_ok nmX0 rfl (by omega) (va_up_self _ _ _) 5 (by decide) (by decide +kernel) rfl rfl (by decide +kernel) rfl rfl (Nat.le_of_ble_eq_true rfl) dX0_init_26 ?_
  refine gc_eq (C2 := va_up (C ca B) (r) (.inr (0, [.int 3, .int 0, .int 4, .int 0, .int 0, .int 0, .null, .null]))) (fun q _ => by simp only [va_up, fz]; (repeat' split) <;> first | rfl | omega) ?_
  refine gc_aload_n F dX0_init_29 rfl 0 rfl ?_
  refine gc_new F (ci := 1) (fs := [.null]) iX0_init_1 tyX1 tyX1_ok rfl (fun j hj => by rcases (show j = 0 by omega) with rfl <;> rfl) (by decide +kernel) (by decide +kernel) (by decide +kernel) (Nat.le_of_ble_eq_true rfl) (Nat.le_of_ble_eq_true rfl) dX0_init_30 ?_
  refine gc_dup F dX0_init_33 rfl ?_
  refine gc_init F hao (kX1_init l (r := r + 1) (M := M) (C := fun ca B => va_up (va_up (C ca B) (r) (.inr (0, [.int 3, .int 0, .int 4, .int 0, .int 0, .int 0, .null, .null]))) (r + 1) (.inr (1, [.null]))) (sb0 hr).1 hA (fun ca B => va_up_self _ _ _)) (cwI 0 F.1.2.2.2.2 gX0_init_X1_init rfl rfl rfl (F.1.2.2.2.2 (.initialized RX1) (by decide +kernel)) (F.1.2.2.2.2 (.methodLink RX0 29 yX1_init) (by decide +kernel)) (F.1.2.2.2.2 (.instanceMethod yX1_init) (by decide +kernel)) rfl (by decide +kernel) ⟨Nat.le_of_ble_eq_true rfl, Nat.le_of_ble_eq_true rfl⟩) (fun _ _ _ z => z) rfl rfl rfl (Nat.le_of_ble_eq_true rfl) dX0_init_34 ⟨Nat.le_of_ble_eq_true rfl, Nat.le_of_ble_eq_true rfl⟩ ?_
  refine gc_put (ty := .object "ShadeCards$DayRow") F hnm iX0_init_0 tyX0 tyX0_ok nmX0 rfl (by omega) ((fz_out (by omega)).trans ((va_up_ne _ _ (by omega)).trans (va_up_self _ _ _))) 6 (by decide) (by decide +kernel) rfl rfl (by decide +kernel) rfl rfl (Nat.le_of_ble_eq_true rfl) dX0_init_37 ?_
  refine gc_eq (C2 := fz ca B M (r + 1) 2 (va_up (C ca B) (r) (.inr (0, [.int 3, .int 0, .int 4, .int 0, .int 0, .int 0, .ref (B + (r + 1)), .null])))) (fun q _ => by simp only [va_up, fz]; (repeat' split) <;> first | rfl | omega) ?_
  refine gc_aload_n F dX0_init_40 rfl 0 rfl ?_
  refine gc_new F (ci := 1) (fs := [.null]) iX0_init_1 tyX1 tyX1_ok rfl (fun j hj => by rcases (show j = 0 by omega) with rfl <;> rfl) (by decide +kernel) (by decide +kernel) (by decide +kernel) (Nat.le_of_ble_eq_true rfl) (Nat.le_of_ble_eq_true rfl) dX0_init_41 ?_
  refine gc_dup F dX0_init_44 rfl ?_
  refine gc_init F hao (kX1_init l (r := r + 3) (M := M) (C := fun ca B => va_up (fz ca B M (r + 1) 2 (va_up (C ca B) (r) (.inr (0, [.int 3, .int 0, .int 4, .int 0, .int 0, .int 0, .ref (B + (r + 1)), .null])))) (r + 3) (.inr (1, [.null]))) (sb0 hr).2 hB (fun ca B => va_up_self _ _ _)) (cwI 0 F.1.2.2.2.2 gX0_init_X1_init rfl rfl rfl (F.1.2.2.2.2 (.initialized RX1) (by decide +kernel)) (F.1.2.2.2.2 (.methodLink RX0 29 yX1_init) (by decide +kernel)) (F.1.2.2.2.2 (.instanceMethod yX1_init) (by decide +kernel)) rfl (by decide +kernel) ⟨Nat.le_of_ble_eq_true rfl, Nat.le_of_ble_eq_true rfl⟩) (fun _ _ _ z => z) rfl rfl rfl (Nat.le_of_ble_eq_true rfl) dX0_init_45 ⟨Nat.le_of_ble_eq_true rfl, Nat.le_of_ble_eq_true rfl⟩ ?_
  refine gc_put (ty := .object "ShadeCards$DayRow") F hnm iX0_init_0 tyX0 tyX0_ok nmX0 rfl (by omega) ((fz_out (by omega)).trans ((va_up_ne _ _ (by omega)).trans ((fz_out (by omega)).trans (va_up_self _ _ _)))) 7 (by decide) (by decide +kernel) rfl rfl (by decide +kernel) rfl rfl (Nat.le_of_ble_eq_true rfl) dX0_init_48 ?_
  refine gc_eq (C2 := fz ca B M (r + 3) 2 (fz ca B M (r + 1) 2 (va_up (C ca B) (r) (.inr (0, [.int 3, .int 0, .int 4, .int 0, .int 0, .int 0, .ref (B + (r + 1)), .ref (B + (r + 3))]))))) (fun q _ => by simp only [va_up, fz]; (repeat' split) <;> first | rfl | omega) ?_
  refine gc_aload_n F dX0_init_51 rfl 0 rfl ?_
  refine gc_iload_n F dX0_init_52 rfl 1 rfl ?_
  refine gc_put (ty := .int) F hnm iX0_init_0 tyX0 tyX0_ok nmX0 rfl (by omega) ((fz_out (by omega)).trans ((fz_out (by omega)).trans (va_up_self _ _ _))) 3 (by decide) (by decide +kernel) rfl rfl (by decide +kernel) rfl rfl (Nat.le_of_ble_eq_true rfl) dX0_init_53 ?_
  refine gc_eq (C2 := fz ca B M (r + 3) 2 (fz ca B M (r + 1) 2 (va_up (C ca B) (r) (.inr (0, [.int 3, .int 0, .int 4, .int (b), .int 0, .int 0, .ref (B + (r + 1)), .ref (B + (r + 3))]))))) (fun q _ => by simp only [va_up, fz]; (repeat' split) <;> first | rfl | omega) ?_
  refine gc_widen (k := rmX0_init.cells) (i := rmX0_init.slots) (Nat.le_of_ble_eq_true rfl) (Nat.le_of_ble_eq_true rfl) ?_
  refine K _ _ _ dX0_init_56 (fun q hq H z => ?_)
  by_cases h : r ≤ q ∧ q < r + 5
  · rw [fz_in h]
    rcases (show q = r ∨ (r + 1 ≤ q ∧ q < r + 1 + 2) ∨ (r + 3 ≤ q ∧ q < r + 3 + 2) by omega) with e1 | h2 | h2
    · rw [e1] at z ⊢
      replace z : va_at D vwCl (B + (r), _) H := (show fz ca B M (r + 3) 2 (fz ca B M (r + 1) 2 (va_up (C ca B) (r) (.inr (0, [.int 3, .int 0, .int 4, .int (b), .int 0, .int 0, .ref (B + (r + 1)), .ref (B + (r + 3))])))) (r) = _ from (fz_out (by omega)).trans ((fz_out (by omega)).trans (va_up_self _ _ _))) ▸ z
      rw [cel0 hr, fs0, h0, h1, h2, h3, h4, h5]; exact z
    · exact (show (fz ca B M (r + 3) 2 (fz ca B M (r + 1) 2 (va_up (C ca B) (r) (.inr (0, [.int 3, .int 0, .int 4, .int (b), .int 0, .int 0, .ref (B + (r + 1)), .ref (B + (r + 3))]))))) q = _ from (fz_out (by omega)).trans (fz_in h2)) ▸ z
    · exact (show (fz ca B M (r + 3) 2 (fz ca B M (r + 1) 2 (va_up (C ca B) (r) (.inr (0, [.int 3, .int 0, .int 4, .int (b), .int 0, .int 0, .ref (B + (r + 1)), .ref (B + (r + 3))]))))) q = _ from fz_in h2) ▸ z
  · rw [fz_out h]; exact (show (fz ca B M (r + 3) 2 (fz ca B M (r + 1) 2 (va_up (C ca B) (r) (.inr (0, [.int 3, .int 0, .int 4, .int (b), .int 0, .int 0, .ref (B + (r + 1)), .ref (B + (r + 3))]))))) q = C ca B q from (fz_out (by omega)).trans ((fz_out (by omega)).trans ((va_up_ne _ _ (by omega)).trans (rfl)))) ▸ z
abbrev rmX3_init : Room := { frames := 1, cells := 0, slots := 0, locals := 12 }
theorem iX3_init_3 : ∀ w ∈ u_ws RX3 TX3 6, w ∈ wsX3_init := by decide +kernel
set_option maxHeartbeats 1000000 in
set_option maxRecDepth 100000 in
theorem kX3_init (l : Launch) {r : Nat} {M : Mm} {C : (Nat → ClassId) → Nat → CE} (hr : isR 3 r) (h0 : M r 0 = -1) (h1 : M r 1 = 0) (h2 : M r 2 = 0) (h3 : M r 3 = 0) (h4 : M r 4 = 0) (h5 : M r 5 = 0) (hC : ∀ ca B, C ca B r = .inr (3, [.int 0, .int 0, .int 0, .int 0, .int 0, .int 0])) : Cn l yX3_init wsX3_init rmX3_init (fun B => [.ref (B + r)]) (r + 1) (r + 1) C (fun ca B => fz ca B M r 1 (C ca B)) := by
  refine Cn.of (own := RX3) (by decide +kernel) rfl rfl (fun B => Nat.le_of_ble_eq_true rfl) ?_
  intro p e s m args below meth c D ca B Q hnm hao F K
  show GC p l e rmX3_init s m args below meth c Q D ca B (AB B) 1 0 0 (r + 1) (C ca B) 0 [(0, .ref (B + r))] []
  refine gc_aload_n F dX3_init_0 rfl 0 rfl ?_
  refine gc_obj F (by decide +kernel) (by decide +kernel) (by decide +kernel) dX3_init_1 (Nat.le_of_ble_eq_true rfl) (Nat.le_of_ble_eq_true rfl) ?_
  refine gc_aload_n F dX3_init_4 rfl 0 rfl ?_
  refine gc_iconst F (v := -1) dX3_init_5 (by decide) ?_
  refine gc_put (ty := .int) F hnm iX3_init_3 tyX3 tyX3_ok nmX3 rfl (by omega) ((hC ca B)) 0 (by decide) (by decide +kernel) rfl rfl (by decide +kernel) rfl rfl (Nat.le_of_ble_eq_true rfl) dX3_init_6 ?_
  refine gc_eq (C2 := va_up (C ca B) (r) (.inr (3, [.int (-1), .int 0, .int 0, .int 0, .int 0, .int 0]))) (fun q _ => by simp only [va_up, fz]; (repeat' split) <;> first | rfl | omega) ?_
  refine gc_aload_n F dX3_init_9 rfl 0 rfl ?_
  refine gc_iconst F (v := 0) dX3_init_10 (by decide) ?_
  refine gc_put (ty := .int) F hnm iX3_init_3 tyX3 tyX3_ok nmX3 rfl (by omega) (va_up_self _ _ _) 1 (by decide) (by decide +kernel) rfl rfl (by decide +kernel) rfl rfl (Nat.le_of_ble_eq_true rfl) dX3_init_11 ?_
  refine gc_eq (C2 := va_up (C ca B) (r) (.inr (3, [.int (-1), .int 0, .int 0, .int 0, .int 0, .int 0]))) (fun q _ => by simp only [va_up, fz]; (repeat' split) <;> first | rfl | omega) ?_
  refine gc_aload_n F dX3_init_14 rfl 0 rfl ?_
  refine gc_iconst F (v := 0) dX3_init_15 (by decide) ?_
  refine gc_put (ty := .boolean) F hnm iX3_init_3 tyX3 tyX3_ok nmX3 rfl (by omega) (va_up_self _ _ _) 2 (by decide) (by decide +kernel) rfl rfl (by decide +kernel) (by decide +kernel) (by decide +kernel) (Nat.le_of_ble_eq_true rfl) dX3_init_16 ?_
  refine gc_eq (C2 := va_up (C ca B) (r) (.inr (3, [.int (-1), .int 0, .int 0, .int 0, .int 0, .int 0]))) (fun q _ => by simp only [va_up, fz]; (repeat' split) <;> first | rfl | omega) ?_
  refine gc_aload_n F dX3_init_19 rfl 0 rfl ?_
  refine gc_iconst F (v := 0) dX3_init_20 (by decide) ?_
  refine gc_put (ty := .boolean) F hnm iX3_init_3 tyX3 tyX3_ok nmX3 rfl (by omega) (va_up_self _ _ _) 3 (by decide) (by decide +kernel) rfl rfl (by decide +kernel) (by decide +kernel) (by decide +kernel) (Nat.le_of_ble_eq_true rfl) dX3_init_21 ?_
  refine gc_eq (C2 := va_up (C ca B) (r) (.inr (3, [.int (-1), .int 0, .int 0, .int 0, .int 0, .int 0]))) (fun q _ => by simp only [va_up, fz]; (repeat' split) <;> first | rfl | omega) ?_
  refine gc_aload_n F dX3_init_24 rfl 0 rfl ?_
  refine gc_iconst F (v := 0) dX3_init_25 (by decide) ?_
  refine gc_put (ty := .boolean) F hnm iX3_init_3 tyX3 tyX3_ok nmX3 rfl (by omega) (va_up_self _ _ _) 4 (by decide) (by decide +kernel) rfl rfl (by decide +kernel) (by decide +kernel) (by decide +kernel) (Nat.le_of_ble_eq_true rfl) dX3_init_26 ?_
  refine gc_eq (C2 := va_up (C ca B) (r) (.inr (3, [.int (-1), .int 0, .int 0, .int 0, .int 0, .int 0]))) (fun q _ => by simp only [va_up, fz]; (repeat' split) <;> first | rfl | omega) ?_
  refine gc_aload_n F dX3_init_29 rfl 0 rfl ?_
  refine gc_iconst F (v := 0) dX3_init_30 (by decide) ?_
  refine gc_put (ty := .boolean) F hnm iX3_init_3 tyX3 tyX3_ok nmX3 rfl (by omega) (va_up_self _ _ _) 5 (by decide) (by decide +kernel) rfl rfl (by decide +kernel) (by decide +kernel) (by decide +kernel) (Nat.le_of_ble_eq_true rfl) dX3_init_31 ?_
  refine gc_eq (C2 := va_up (C ca B) (r) (.inr (3, [.int (-1), .int 0, .int 0, .int 0, .int 0, .int 0]))) (fun q _ => by simp only [va_up, fz]; (repeat' split) <;> first | rfl | omega) ?_
  refine K _ _ _ dX3_init_34 (fun q hq H z => ?_)
  by_cases h : r ≤ q ∧ q < r + 1
  · rw [fz_in h]
    have e1 : q = r := by omega
    rw [e1] at z ⊢
    replace z : va_at D vwCl (B + (r), _) H := (show va_up (C ca B) (r) (.inr (3, [.int (-1), .int 0, .int 0, .int 0, .int 0, .int 0])) (r) = _ from va_up_self _ _ _) ▸ z
    rw [cel3 hr, fs3, h0, h1, h2, h3, h4, h5]; exact z
  · rw [fz_out h]; exact (show (va_up (C ca B) (r) (.inr (3, [.int (-1), .int 0, .int 0, .int 0, .int 0, .int 0]))) q = C ca B q from (va_up_ne _ _ (by omega)).trans (rfl)) ▸ z
abbrev rmX4_init : Room := { frames := 1, cells := 0, slots := 0, locals := 12 }
theorem iX4_init_4 : ∀ w ∈ u_ws RX4 TX4 5, w ∈ wsX4_init := by decide +kernel
set_option maxHeartbeats 1000000 in
set_option maxRecDepth 100000 in
theorem kX4_init (l : Launch) {r : Nat} {M : Mm} {C : (Nat → ClassId) → Nat → CE} (hr : isR 4 r) (h0 : M r 0 = -1) (h1 : M r 1 = 0) (h2 : M r 2 = 0) (h3 : M r 3 = 0) (h4 : M r 4 = 0) (hC : ∀ ca B, C ca B r = .inr (4, [.int 0, .int 0, .int 0, .int 0, .int 0])) : Cn l yX4_init wsX4_init rmX4_init (fun B => [.ref (B + r)]) (r + 1) (r + 1) C (fun ca B => fz ca B M r 1 (C ca B)) := by
  refine Cn.of (own := RX4) (by decide +kernel) rfl rfl (fun B => Nat.le_of_ble_eq_true rfl) ?_
  intro p e s m args below meth c D ca B Q hnm hao F K
  show GC p l e rmX4_init s m args below meth c Q D ca B (AB B) 1 0 0 (r + 1) (C ca B) 0 [(0, .ref (B + r))] []
  refine gc_aload_n F dX4_init_0 rfl 0 rfl ?_
  refine gc_obj F (by decide +kernel) (by decide +kernel) (by decide +kernel) dX4_init_1 (Nat.le_of_ble_eq_true rfl) (Nat.le_of_ble_eq_true rfl) ?_
  refine gc_aload_n F dX4_init_4 rfl 0 rfl ?_
  refine gc_iconst F (v := -1) dX4_init_5 (by decide) ?_
  refine gc_put (ty := .int) F hnm iX4_init_4 tyX4 tyX4_ok nmX4 rfl (by omega) ((hC ca B)) 0 (by decide) (by decide +kernel) rfl rfl (by decide +kernel) rfl rfl (Nat.le_of_ble_eq_true rfl) dX4_init_6 ?_
  refine gc_eq (C2 := va_up (C ca B) (r) (.inr (4, [.int (-1), .int 0, .int 0, .int 0, .int 0]))) (fun q _ => by simp only [va_up, fz]; (repeat' split) <;> first | rfl | omega) ?_
  refine gc_aload_n F dX4_init_9 rfl 0 rfl ?_
  refine gc_iconst F (v := 0) dX4_init_10 (by decide) ?_
  refine gc_put (ty := .int) F hnm iX4_init_4 tyX4 tyX4_ok nmX4 rfl (by omega) (va_up_self _ _ _) 1 (by decide) (by decide +kernel) rfl rfl (by decide +kernel) rfl rfl (Nat.le_of_ble_eq_true rfl) dX4_init_11 ?_
  refine gc_eq (C2 := va_up (C ca B) (r) (.inr (4, [.int (-1), .int 0, .int 0, .int 0, .int 0]))) (fun q _ => by simp only [va_up, fz]; (repeat' split) <;> first | rfl | omega) ?_
  refine gc_aload_n F dX4_init_14 rfl 0 rfl ?_
  refine gc_iconst F (v := 0) dX4_init_15 (by decide) ?_
  refine gc_put (ty := .int) F hnm iX4_init_4 tyX4 tyX4_ok nmX4 rfl (by omega) (va_up_self _ _ _) 2 (by decide) (by decide +kernel) rfl rfl (by decide +kernel) rfl rfl (Nat.le_of_ble_eq_true rfl) dX4_init_16 ?_
  refine gc_eq (C2 := va_up (C ca B) (r) (.inr (4, [.int (-1), .int 0, .int 0, .int 0, .int 0]))) (fun q _ => by simp only [va_up, fz]; (repeat' split) <;> first | rfl | omega) ?_
  refine gc_aload_n F dX4_init_19 rfl 0 rfl ?_
  refine gc_iconst F (v := 0) dX4_init_20 (by decide) ?_
  refine gc_put (ty := .int) F hnm iX4_init_4 tyX4 tyX4_ok nmX4 rfl (by omega) (va_up_self _ _ _) 3 (by decide) (by decide +kernel) rfl rfl (by decide +kernel) rfl rfl (Nat.le_of_ble_eq_true rfl) dX4_init_21 ?_
  refine gc_eq (C2 := va_up (C ca B) (r) (.inr (4, [.int (-1), .int 0, .int 0, .int 0, .int 0]))) (fun q _ => by simp only [va_up, fz]; (repeat' split) <;> first | rfl | omega) ?_
  refine gc_aload_n F dX4_init_24 rfl 0 rfl ?_
  refine gc_iconst F (v := 0) dX4_init_25 (by decide) ?_
  refine gc_put (ty := .int) F hnm iX4_init_4 tyX4 tyX4_ok nmX4 rfl (by omega) (va_up_self _ _ _) 4 (by decide) (by decide +kernel) rfl rfl (by decide +kernel) rfl rfl (Nat.le_of_ble_eq_true rfl) dX4_init_26 ?_
  refine gc_eq (C2 := va_up (C ca B) (r) (.inr (4, [.int (-1), .int 0, .int 0, .int 0, .int 0]))) (fun q _ => by simp only [va_up, fz]; (repeat' split) <;> first | rfl | omega) ?_
  refine K _ _ _ dX4_init_29 (fun q hq H z => ?_)
  by_cases h : r ≤ q ∧ q < r + 1
  · rw [fz_in h]
    have e1 : q = r := by omega
    rw [e1] at z ⊢
    replace z : va_at D vwCl (B + (r), _) H := (show va_up (C ca B) (r) (.inr (4, [.int (-1), .int 0, .int 0, .int 0, .int 0])) (r) = _ from va_up_self _ _ _) ▸ z
    rw [cel4 hr, fs4, h0, h1, h2, h3, h4]; exact z
  · rw [fz_out h]; exact (show (va_up (C ca B) (r) (.inr (4, [.int (-1), .int 0, .int 0, .int 0, .int 0]))) q = C ca B q from (va_up_ne _ _ (by omega)).trans (rfl)) ▸ z
abbrev rmX5_init : Room := { frames := 1, cells := 1, slots := 60, locals := 12 }
theorem iX5_init_5 : ∀ w ∈ u_ws RX5 TX5 6, w ∈ wsX5_init := by decide +kernel
set_option maxHeartbeats 1000000 in
set_option maxRecDepth 100000 in
theorem kX5_init (l : Launch) {r : Nat} {M : Mm} {C : (Nat → ClassId) → Nat → CE} (hr : isR 5 r) (h1 : M r 1 = 0) (h2 : M r 2 = 0) (h3 : M r 3 = 0) (h4 : M r 4 = -1) (h5 : M r 5 = -1) (hA : ∀ j, j < 60 → M (r + 1) j = 0) (hC : ∀ ca B, C ca B r = .inr (5, [.null, .int 0, .int 0, .int 0, .int 0, .int 0])) : Cn l yX5_init wsX5_init rmX5_init (fun B => [.ref (B + r)]) (r + 1) (r + 2) C (fun ca B => fz ca B M r 2 (C ca B)) := by
  refine Cn.of (own := RX5) (by decide +kernel) rfl rfl (fun B => Nat.le_of_ble_eq_true rfl) ?_
  intro p e s m args below meth c D ca B Q hnm hao F K
  show GC p l e rmX5_init s m args below meth c Q D ca B (AB B) 1 0 0 (r + 1) (C ca B) 0 [(0, .ref (B + r))] []
  refine gc_aload_n F dX5_init_0 rfl 0 rfl ?_
  refine gc_obj F (by decide +kernel) (by decide +kernel) (by decide +kernel) dX5_init_1 (Nat.le_of_ble_eq_true rfl) (Nat.le_of_ble_eq_true rfl) ?_
  refine gc_aload_n F dX5_init_4 rfl 0 rfl ?_
  refine gc_bipush F (v := 60) dX5_init_5 (by decide) ?_
  refine gc_newa F 0 rfl rfl rfl rfl (by decide +kernel) 60 rfl (by decide) (by decide) (Nat.le_of_ble_eq_true rfl) (Nat.le_of_ble_eq_true rfl) dX5_init_7 ?_
  refine gc_put (ty := .array .char) F hnm iX5_init_5 tyX5 tyX5_ok nmX5 rfl (by omega) ((va_up_ne _ _ (by omega)).trans ((hC ca B))) 0 (by decide) (by decide +kernel) rfl rfl (by decide +kernel) rfl rfl (Nat.le_of_ble_eq_true rfl) dX5_init_9 ?_
  refine gc_eq (C2 := va_up (va_up (C ca B) (r) (.inr (5, [.ref (B + (r + 1)), .int 0, .int 0, .int 0, .int 0, .int 0]))) (r + 1) (.inl (ca 10, 60, .inl (fun _ => 0)))) (fun q _ => by simp only [va_up, fz]; (repeat' split) <;> first | rfl | omega) ?_
  refine gc_aload_n F dX5_init_12 rfl 0 rfl ?_
  refine gc_iconst F (v := 0) dX5_init_13 (by decide) ?_
  refine gc_put (ty := .int) F hnm iX5_init_5 tyX5 tyX5_ok nmX5 rfl (by omega) ((va_up_ne _ _ (by omega)).trans (va_up_self _ _ _)) 1 (by decide) (by decide +kernel) rfl rfl (by decide +kernel) rfl rfl (Nat.le_of_ble_eq_true rfl) dX5_init_14 ?_
  refine gc_eq (C2 := va_up (va_up (C ca B) (r) (.inr (5, [.ref (B + (r + 1)), .int 0, .int 0, .int 0, .int 0, .int 0]))) (r + 1) (.inl (ca 10, 60, .inl (fun _ => 0)))) (fun q _ => by simp only [va_up, fz]; (repeat' split) <;> first | rfl | omega) ?_
  refine gc_aload_n F dX5_init_17 rfl 0 rfl ?_
  refine gc_iconst F (v := 0) dX5_init_18 (by decide) ?_
  refine gc_put (ty := .int) F hnm iX5_init_5 tyX5 tyX5_ok nmX5 rfl (by omega) ((va_up_ne _ _ (by omega)).trans (va_up_self _ _ _)) 2 (by decide) (by decide +kernel) rfl rfl (by decide +kernel) rfl rfl (Nat.le_of_ble_eq_true rfl) dX5_init_19 ?_
  refine gc_eq (C2 := va_up (va_up (C ca B) (r) (.inr (5, [.ref (B + (r + 1)), .int 0, .int 0, .int 0, .int 0, .int 0]))) (r + 1) (.inl (ca 10, 60, .inl (fun _ => 0)))) (fun q _ => by simp only [va_up, fz]; (repeat' split) <;> first | rfl | omega) ?_
  refine gc_aload_n F dX5_init_22 rfl 0 rfl ?_
  refine gc_iconst F (v := 0) dX5_init_23 (by decide) ?_
  refine gc_put (ty := .char) F hnm iX5_init_5 tyX5 tyX5_ok nmX5 rfl (by omega) ((va_up_ne _ _ (by omega)).trans (va_up_self _ _ _)) 3 (by decide) (by decide +kernel) rfl rfl (by decide +kernel) (by decide +kernel) (by decide +kernel) (Nat.le_of_ble_eq_true rfl) dX5_init_24 ?_
  refine gc_eq (C2 := va_up (va_up (C ca B) (r) (.inr (5, [.ref (B + (r + 1)), .int 0, .int 0, .int 0, .int 0, .int 0]))) (r + 1) (.inl (ca 10, 60, .inl (fun _ => 0)))) (fun q _ => by simp only [va_up, fz]; (repeat' split) <;> first | rfl | omega) ?_
  refine gc_aload_n F dX5_init_27 rfl 0 rfl ?_
  refine gc_iconst F (v := -1) dX5_init_28 (by decide) ?_
  refine gc_put (ty := .int) F hnm iX5_init_5 tyX5 tyX5_ok nmX5 rfl (by omega) ((va_up_ne _ _ (by omega)).trans (va_up_self _ _ _)) 4 (by decide) (by decide +kernel) rfl rfl (by decide +kernel) rfl rfl (Nat.le_of_ble_eq_true rfl) dX5_init_29 ?_
  refine gc_eq (C2 := va_up (va_up (C ca B) (r) (.inr (5, [.ref (B + (r + 1)), .int 0, .int 0, .int 0, .int (-1), .int 0]))) (r + 1) (.inl (ca 10, 60, .inl (fun _ => 0)))) (fun q _ => by simp only [va_up, fz]; (repeat' split) <;> first | rfl | omega) ?_
  refine gc_aload_n F dX5_init_32 rfl 0 rfl ?_
  refine gc_iconst F (v := -1) dX5_init_33 (by decide) ?_
  refine gc_put (ty := .int) F hnm iX5_init_5 tyX5 tyX5_ok nmX5 rfl (by omega) ((va_up_ne _ _ (by omega)).trans (va_up_self _ _ _)) 5 (by decide) (by decide +kernel) rfl rfl (by decide +kernel) rfl rfl (Nat.le_of_ble_eq_true rfl) dX5_init_34 ?_
  refine gc_eq (C2 := va_up (va_up (C ca B) (r) (.inr (5, [.ref (B + (r + 1)), .int 0, .int 0, .int 0, .int (-1), .int (-1)]))) (r + 1) (.inl (ca 10, 60, .inl (fun _ => 0)))) (fun q _ => by simp only [va_up, fz]; (repeat' split) <;> first | rfl | omega) ?_
  refine gc_widen (k := rmX5_init.cells) (i := rmX5_init.slots) (Nat.le_of_ble_eq_true rfl) (Nat.le_of_ble_eq_true rfl) ?_
  refine K _ _ _ dX5_init_37 (fun q hq H z => ?_)
  by_cases h : r ≤ q ∧ q < r + 2
  · rw [fz_in h]
    rcases (show q = r ∨ q = r + 1 by omega) with e1 | e1
    · rw [e1] at z ⊢
      replace z : va_at D vwCl (B + (r), _) H := (show va_up (va_up (C ca B) (r) (.inr (5, [.ref (B + (r + 1)), .int 0, .int 0, .int 0, .int (-1), .int (-1)]))) (r + 1) (.inl (ca 10, 60, .inl (fun _ => 0))) (r) = _ from (va_up_ne _ _ (by omega)).trans (va_up_self _ _ _)) ▸ z
      rw [cel5 hr, fs5, h1, h2, h3, h4, h5]; exact z
    · rw [e1] at z ⊢
      replace z : va_at D vwCl (B + (r + 1), _) H := (show va_up (va_up (C ca B) (r) (.inr (5, [.ref (B + (r + 1)), .int 0, .int 0, .int 0, .int (-1), .int (-1)]))) (r + 1) (.inl (ca 10, 60, .inl (fun _ => 0))) (r + 1) = _ from va_up_self _ _ _) ▸ z
      rw [cel10 (sb5 hr)]; exact at_i (fun j hj => (hA j hj).symm) z
  · rw [fz_out h]; exact (show (va_up (va_up (C ca B) (r) (.inr (5, [.ref (B + (r + 1)), .int 0, .int 0, .int 0, .int (-1), .int (-1)]))) (r + 1) (.inl (ca 10, 60, .inl (fun _ => 0)))) q = C ca B q from (va_up_ne _ _ (by omega)).trans ((va_up_ne _ _ (by omega)).trans (rfl))) ▸ z
