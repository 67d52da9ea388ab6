/-- an object on its way: k cells of it, its array of objects at place r + j being X -/
def LC1 (ca : Nat → ClassId) (B : Nat) (M : Mm) (r k j : Nat) (X : va_E) (C : CE) : CE := fun q => if q = r + j then X else if r ≤ q ∧ q < r + k then cel ca B M q else C q
section LCS
variable {ca : Nat → ClassId} {B : Nat} {M : Mm} {r k j q : Nat} {X : va_E} {C : CE}
theorem LC1_a : LC1 ca B M r k j X C (r + j) = X := if_pos rfl
theorem LC1_in (h : r ≤ q ∧ q < r + k) (h1 : q ≠ r + j) : LC1 ca B M r k j X C q = cel ca B M q := by unfold LC1; rw [if_neg h1, if_pos h]
theorem LC1_out (h : ¬ (r ≤ q ∧ q < r + k)) (h1 : q ≠ r + j) : LC1 ca B M r k j X C q = C q := by unfold LC1; rw [if_neg h1, if_neg h]
end LCS

abbrev rmX7_init : Room := { frames := 4, cells := 70, slots := 1913, locals := 85 }
theorem iX7_init_6 : ∀ w ∈ u_ws RX6 TX6 10, w ∈ wsX7_init := by decide +kernel
theorem iX7_init_7 : ∀ w ∈ u_ws RX7 TX7 2, w ∈ wsX7_init := by decide +kernel
set_option maxHeartbeats 1000000 in
set_option maxRecDepth 100000 in
theorem kX7_init (l : Launch) {r : Nat} {M : Mm} {C : (Nat → ClassId) → Nat → CE} (hr : isR 7 r) (h1 : M r 1 = 0) (hR : RI M (r + 1)) (hC : ∀ ca B, C ca B r = .inr (7, [.null, .int 0])) : Cn l yX7_init wsX7_init rmX7_init (fun B => [.ref (B + r)]) (r + 1) (r + 71) C (fun ca B => fz ca B M r 71 (C ca B)) := by
  refine Cn.of (own := RX7) (by decide +kernel) rfl rfl (fun B => Nat.le_of_ble_eq_true rfl) ?_
  intro p e s m args below meth c D ca B Q hnm hao F K
  show GC p l e rmX7_init s m args below meth c Q D ca B (AB B) 1 0 0 (r + 1) (C ca B) 0 [(0, .ref (B + r))] []
  refine gc_aload_n F dX7_init_0 rfl 0 rfl ?_
  refine gc_obj F (by decide +kernel) (by decide +kernel) (by decide +kernel) dX7_init_1 (Nat.le_of_ble_eq_true rfl) (Nat.le_of_ble_eq_true rfl) ?_
  refine gc_aload_n F dX7_init_4 rfl 0 rfl ?_
  refine gc_new F (ci := 6) (fs := [.null, .null, .null, .null, .null, .int 0, .int 0, .int 0, .int 0, .int 0]) iX7_init_6 tyX6 tyX6_ok rfl (fun j hj => by rcases (show j = 0 ∨ j = 1 ∨ j = 2 ∨ j = 3 ∨ j = 4 ∨ j = 5 ∨ j = 6 ∨ j = 7 ∨ j = 8 ∨ j = 9 by omega) with rfl | rfl | rfl | rfl | rfl | rfl | rfl | rfl | rfl | rfl <;> rfl) (by decide +kernel) (by decide +kernel) (by decide +kernel) (Nat.le_of_ble_eq_true rfl) (Nat.le_of_ble_eq_true rfl) dX7_init_5 ?_
  refine gc_dup F dX7_init_8 rfl ?_
  refine gc_init F hao (kX6_init l (r := r + 1) (M := M) (C := fun ca B => va_up (C ca B) (r + 1) (.inr (6, [.null, .null, .null, .null, .null, .int 0, .int 0, .int 0, .int 0, .int 0]))) (sb7 hr) hR (fun ca B => va_up_self _ _ _)) (cwI 0 F.1.2.2.2.2 gX7_init_X6_init rfl rfl rfl (F.1.2.2.2.2 (.initialized RX6) (by decide +kernel)) (F.1.2.2.2.2 (.methodLink RX7 9 yX6_init) (by decide +kernel)) (F.1.2.2.2.2 (.instanceMethod yX6_init) (by decide +kernel)) rfl (by decide +kernel) ⟨Nat.le_of_ble_eq_true rfl, Nat.le_of_ble_eq_true rfl⟩) (fun _ _ _ z => z) rfl rfl rfl (Nat.le_of_ble_eq_true rfl) dX7_init_9 ⟨Nat.le_of_ble_eq_true rfl, Nat.le_of_ble_eq_true rfl⟩ ?_
  refine gc_put (ty := .object "ShadeCards$Ridge") F hnm iX7_init_7 tyX7 tyX7_ok nmX7 rfl (by omega) ((fz_out (by omega)).trans ((va_up_ne _ _ (by omega)).trans ((hC ca B)))) 0 (by decide) (by decide +kernel) rfl rfl (by decide +kernel) rfl rfl (Nat.le_of_ble_eq_true rfl) dX7_init_12 ?_
  refine gc_eq (C2 := fz ca B M (r + 1) 70 (va_up (C ca B) (r) (.inr (7, [.ref (B + (r + 1)), .int 0])))) (fun q _ => by simp only [va_up, fz]; (repeat' split) <;> first | rfl | omega) ?_
  refine gc_aload_n F dX7_init_15 rfl 0 rfl ?_
  refine gc_iconst F (v := 0) dX7_init_16 (by decide) ?_
  refine gc_put (ty := .boolean) F hnm iX7_init_7 tyX7 tyX7_ok nmX7 rfl (by omega) ((fz_out (by omega)).trans (va_up_self _ _ _)) 1 (by decide) (by decide +kernel) rfl rfl (by decide +kernel) (by decide +kernel) (by decide +kernel) (Nat.le_of_ble_eq_true rfl) dX7_init_17 ?_
  refine gc_eq (C2 := fz ca B M (r + 1) 70 (va_up (C ca B) (r) (.inr (7, [.ref (B + (r + 1)), .int 0])))) (fun q _ => by simp only [va_up, fz]; (repeat' split) <;> first | rfl | omega) ?_
  refine gc_widen (k := rmX7_init.cells) (i := rmX7_init.slots) (Nat.le_of_ble_eq_true rfl) (Nat.le_of_ble_eq_true rfl) ?_
  refine K _ _ _ dX7_init_20 (fun q hq H z => ?_)
  by_cases h : r ≤ q ∧ q < r + 71
  · rw [fz_in h]
    rcases (show q = r ∨ (r + 1 ≤ q ∧ q < r + 1 + 70) by omega) with e1 | h2
    · rw [e1] at z ⊢
      replace z : va_at D vwCl (B + (r), _) H := (show fz ca B M (r + 1) 70 (va_up (C ca B) (r) (.inr (7, [.ref (B + (r + 1)), .int 0]))) (r) = _ from (fz_out (by omega)).trans (va_up_self _ _ _)) ▸ z
      rw [cel7 hr, fs7, h1]; exact z
    · exact (show (fz ca B M (r + 1) 70 (va_up (C ca B) (r) (.inr (7, [.ref (B + (r + 1)), .int 0])))) q = _ from fz_in h2) ▸ z
  · rw [fz_out h]; exact (show (fz ca B M (r + 1) 70 (va_up (C ca B) (r) (.inr (7, [.ref (B + (r + 1)), .int 0])))) q = C ca B q from (fz_out (by omega)).trans ((va_up_ne _ _ (by omega)).trans (rfl))) ▸ z
abbrev rmX2_init : Room := { frames := 4, cells := 421, slots := 11484, locals := 85 }
theorem iX2_init_2 : ∀ w ∈ u_ws RX2 TX2 2, w ∈ wsX2_init := by decide +kernel
theorem iX2_init_6 : ∀ w ∈ u_ws RX6 TX6 10, w ∈ wsX2_init := by decide +kernel
set_option maxHeartbeats 4000000 in
set_option maxRecDepth 100000 in
theorem kX2_init (l : Launch) {r : Nat} {M : Mm} {C : (Nat → ClassId) → Nat → CE} (hr : isR 2 r) (h1 : M r 1 = 0) (hs : ∀ i, i < 6 → M (r + 1) i = nI i) (hR : ∀ i, i < 6 → RI M (r + 2 + 70 * i)) (hC : ∀ ca B, C ca B r = .inr (2, [.null, .int 0])) : Cn l yX2_init wsX2_init rmX2_init (fun B => [.ref (B + r)]) (r + 1) (r + 422) C (fun ca B => fz ca B M r 422 (C ca B)) := by
  refine Cn.of (own := RX2) (by decide +kernel) rfl rfl (fun B => Nat.le_of_ble_eq_true rfl) ?_
  intro p e s m args below meth c D ca B Q hnm hao F K
  show GC p l e rmX2_init s m args below meth c Q D ca B (AB B) 2 0 0 (r + 1) (C ca B) 0 [(0, .ref (B + r))] []
  refine gc_aload_n F dX2_init_0 rfl 0 rfl ?_
  refine gc_obj F (by decide +kernel) (by decide +kernel) (by decide +kernel) dX2_init_1 (Nat.le_of_ble_eq_true rfl) (Nat.le_of_ble_eq_true rfl) ?_
  refine gc_aload_n F dX2_init_4 rfl 0 rfl ?_
  refine gc_bipush F (v := 6) dX2_init_5 (by decide) ?_
  refine gc_anew F 5 rfl (by decide +kernel) (hao _ (by decide +kernel)) 6 rfl (by decide) (by decide) (Nat.le_of_ble_eq_true rfl) (Nat.le_of_ble_eq_true rfl) dX2_init_7 ?_
  refine gc_put (ty := .array (.object "ShadeCards$Ridge")) F hnm iX2_init_2 tyX2 tyX2_ok nmX2 rfl (by omega) ((va_up_ne _ _ (by omega)).trans ((hC ca B))) 0 (by decide) (by decide +kernel) rfl rfl (by decide +kernel) rfl rfl (Nat.le_of_ble_eq_true rfl) dX2_init_10 ?_
  refine gc_eq (C2 := va_up (va_up (C ca B) (r) (.inr (2, [.ref (B + (r + 1)), .int 0]))) (r + 1) (.inl (ca 15, 6, .inr (.inr (.inr (.inr (fun _ => none))))))) (fun q _ => by simp only [va_up, fz]; (repeat' split) <;> first | rfl | omega) ?_
  refine gc_aload_n F dX2_init_13 rfl 0 rfl ?_
  refine gc_iconst F (v := 0) dX2_init_14 (by decide) ?_
  refine gc_put (ty := .int) F hnm iX2_init_2 tyX2 tyX2_ok nmX2 rfl (by omega) ((va_up_ne _ _ (by omega)).trans (va_up_self _ _ _)) 1 (by decide) (by decide +kernel) rfl rfl (by decide +kernel) rfl rfl (Nat.le_of_ble_eq_true rfl) dX2_init_15 ?_
  refine gc_eq (C2 := va_up (va_up (C ca B) (r) (.inr (2, [.ref (B + (r + 1)), .int 0]))) (r + 1) (.inl (ca 15, 6, .inr (.inr (.inr (.inr (fun _ => none))))))) (fun q _ => by simp only [va_up, fz]; (repeat' split) <;> first | rfl | omega) ?_
  have LP : ∀ (k i : Nat), i + k = 6 → GC p l e rmX2_init s m args below meth c Q D ca B (AB B) 2 (1 + 70 * i) (6 + 1913 * i) (r + 2 + 70 * i) (LC1 ca B M r 422 1 (.inl (ca 15, 6, qn B i (r + 2) 70)) (C ca B)) 20 [(1, .int (nI i)), (0, .ref (B + r))] [] := by
    intro k
    induction k with
    | zero =>
      intro i hi
      obtain rfl : i = 6 := by omega
      refine gc_iload_n F dX2_init_20 rfl 0 rfl ?_
      refine gc_bipush F (v := 6) dX2_init_21 (by decide) ?_
      refine gc_icmpN_ge F 45 dX2_init_23 (by decide) 6 6 rfl rfl (by omega) (by omega) (fun _ => ?_) (fun hci => absurd hci (by omega))
      refine gc_widen (k := rmX2_init.cells) (i := rmX2_init.slots) (Nat.le_of_ble_eq_true rfl) (Nat.le_of_ble_eq_true rfl) ?_
      refine gc_n (n2 := r + 422) (by omega) ?_
      refine K _ _ _ dX2_init_45 (fun q hq H z => ?_)
      by_cases e1 : q = r + 1
      · rw [e1, LC1_a] at z; rw [e1, fz_in (by omega), cel15 (sb2 hr)]
        refine at_q (fun j hj => (if_pos hj).trans ?_) z
        show some _ = some (B + (r + 1 + 1 + 70 * (M (r + 1) j).toNatClampNeg)); rw [hs j hj, nI_clamp (by omega), show r + 1 + 1 + 70 * j = r + 2 + 70 * j by omega]
      · by_cases e5 : r ≤ q ∧ q < r + 422
        · rw [fz_in e5]; rw [LC1_in e5 e1] at z; exact z
        · rw [fz_out e5]; rw [LC1_out e5 e1] at z; exact z
    | succ k ih =>
      intro i hi
      refine gc_iload_n F dX2_init_20 rfl 0 rfl ?_
      refine gc_bipush F (v := 6) dX2_init_21 (by decide) ?_
      refine gc_icmpN_ge F 45 dX2_init_23 (by decide) i 6 rfl rfl (by omega) (by omega) (fun hci => absurd hci (by omega)) (fun _ => ?_)
      refine gc_aload_n F dX2_init_26 rfl 1 rfl ?_
      refine gc_get F iX2_init_2 rfl (by omega) ((LC1_in (by omega) (by omega)).trans (cel2 hr)) 0 (by decide) (by decide +kernel) rfl rfl dX2_init_27 ?_
      refine gc_iload_n F dX2_init_30 rfl 0 rfl ?_
      refine gc_new F (ci := 6) (fs := [.null, .null, .null, .null, .null, .int 0, .int 0, .int 0, .int 0, .int 0]) iX2_init_6 tyX6 tyX6_ok rfl (fun j hj => by rcases (show j = 0 ∨ j = 1 ∨ j = 2 ∨ j = 3 ∨ j = 4 ∨ j = 5 ∨ j = 6 ∨ j = 7 ∨ j = 8 ∨ j = 9 by omega) with rfl | rfl | rfl | rfl | rfl | rfl | rfl | rfl | rfl | rfl <;> rfl) (by decide +kernel) (by decide +kernel) (by decide +kernel) (by show 1 + 70 * i + 1 ≤ 421; omega) (by show 6 + 1913 * i + 10 ≤ 11484; omega) dX2_init_31 ?_
      refine gc_dup F dX2_init_34 rfl ?_
      refine gc_init F hao (kX6_init l (r := r + 2 + 70 * i) (M := M) (C := fun ca B => va_up (LC1 ca B M r 422 1 (.inl (ca 15, 6, qn B i (r + 2) 70)) (C ca B)) (r + 2 + 70 * i) (.inr (6, [.null, .null, .null, .null, .null, .int 0, .int 0, .int 0, .int 0, .int 0]))) (show isR 6 (r + 2 + 70 * i) from by have := el15 (sb2 hr) (show i < 6 by omega); rwa [show r + 1 + 1 + 70 * i = r + 2 + 70 * i by omega] at this) (hR i (by omega)) (fun ca B => va_up_self _ _ _)) (cwI 0 F.1.2.2.2.2 gX2_init_X6_init rfl rfl rfl (F.1.2.2.2.2 (.initialized RX6) (by decide +kernel)) (F.1.2.2.2.2 (.methodLink RX2 21 yX6_init) (by decide +kernel)) (F.1.2.2.2.2 (.instanceMethod yX6_init) (by decide +kernel)) rfl (by decide +kernel) ⟨Nat.le_of_ble_eq_true rfl, Nat.le_of_ble_eq_true rfl⟩) (fun _ _ _ z => z) rfl rfl rfl (Nat.le_of_ble_eq_true rfl) dX2_init_35 ⟨by show 1 + 70 * i + 1 + 69 ≤ 421; omega, by show 6 + 1913 * i + 10 + 1903 ≤ 11484; omega⟩ ?_
      refine gc_aastore F (v := r + 2 + 70 * i) (ci := 6) (t0 := 5) (q0 := (RX6, TX6, 10)) (by omega) (by omega) rfl rfl ((fz_out (by omega)).trans ((va_up_ne _ _ (by omega)).trans LC1_a)) ((fz_in (by omega)).trans (cel6 (show isR 6 (r + 2 + 70 * i) from by have := el15 (sb2 hr) (show i < 6 by omega); rwa [show r + 1 + 1 + 70 * i = r + 2 + 70 * i by omega] at this))) i rfl (by omega) (by decide) dX2_init_38 ?_
      refine gc_iinc F (lv2 := [(1, _), (0, _)]) dX2_init_39 0 rfl (nI_1 _) (by decide) rfl ?_
      refine gc_goto F 20 dX2_init_42 (by decide) ?_
      refine gc_n (n2 := r + 2 + 70 * (i + 1)) (by omega) ?_
      refine gc_widen (k := 1 + 70 * (i + 1)) (i := 6 + 1913 * (i + 1)) (by show 1 + 70 * i + 1 + 69 ≤ _; omega) (by show 6 + 1913 * i + 10 + 1903 ≤ _; omega) ?_
      refine gc_eqv (fun q hq H z => ?_) (ih (i + 1) (by omega))
      by_cases e1 : q = r + 1
      · rw [e1] at z ⊢
        rw [va_up_self] at z; rw [LC1_a]
        exact at_q (fun j hj => qn_s rfl) z
      · rw [va_up_ne _ _ e1] at z
        by_cases e2 : r + 2 + 70 * i ≤ q ∧ q < r + 2 + 70 * i + 70
        · rw [fz_in e2] at z
          rw [LC1_in (by omega) e1]; exact z
        · rw [fz_out e2, va_up_ne _ _ (by omega)] at z
          by_cases e5 : r ≤ q ∧ q < r + 422
          · rw [LC1_in e5 e1] at z ⊢; exact z
          · rw [LC1_out e5 e1] at z ⊢; exact z
  refine gc_iconst F (v := nI 0) dX2_init_18 (by decide) ?_
  refine gc_istore_n F (lv2 := [(1, _), (0, _)]) dX2_init_19 rfl (by decide) rfl ?_
  refine gc_n (n2 := r + 2 + 70 * 0) (by omega) ?_
  refine gc_eqv (fun q hq H z => ?_) (LP 6 0 (by omega))
  by_cases e1 : q = r + 1
  · rw [e1] at z ⊢
    replace z : va_at D vwCl (B + (r + 1), _) H := (show (va_up (va_up (C ca B) (r) (.inr (2, [.ref (B + (r + 1)), .int 0]))) (r + 1) (.inl (ca 15, 6, .inr (.inr (.inr (.inr (fun _ => none))))))) (r + 1) = _ from va_up_self _ _ _) ▸ z
    rw [LC1_a]; exact at_q (fun j hj => (if_neg (by omega)).symm) z
  by_cases e5 : r ≤ q ∧ q < r + 422
  · rw [LC1_in e5 e1]
    by_cases e0 : q = r
    · rw [e0] at z ⊢
      replace z : va_at D vwCl (B + (r), _) H := (show (va_up (va_up (C ca B) (r) (.inr (2, [.ref (B + (r + 1)), .int 0]))) (r + 1) (.inl (ca 15, 6, .inr (.inr (.inr (.inr (fun _ => none))))))) r = _ from (va_up_ne _ _ (by omega)).trans (va_up_self _ _ _)) ▸ z
      rw [cel2 hr, fs2, h1]; exact z
    exact absurd e5 (by omega)
  · rw [LC1_out e5 e1]; exact (show (va_up (va_up (C ca B) (r) (.inr (2, [.ref (B + (r + 1)), .int 0]))) (r + 1) (.inl (ca 15, 6, .inr (.inr (.inr (.inr (fun _ => none))))))) q = C ca B q from (va_up_ne _ _ (by omega)).trans ((va_up_ne _ _ (by omega)).trans (rfl))) ▸ z
abbrev rmX8_init : Room := { frames := 5, cells := 708, slots := 19218, locals := 106 }
theorem iX8_init_2 : ∀ w ∈ u_ws RX2 TX2 2, w ∈ wsX8_init := by decide +kernel
theorem iX8_init_5 : ∀ w ∈ u_ws RX5 TX5 6, w ∈ wsX8_init := by decide +kernel
theorem iX8_init_6 : ∀ w ∈ u_ws RX6 TX6 10, w ∈ wsX8_init := by decide +kernel
theorem iX8_init_7 : ∀ w ∈ u_ws RX7 TX7 2, w ∈ wsX8_init := by decide +kernel
theorem iX8_init_8 : ∀ w ∈ u_ws RX8 TX8 6, w ∈ wsX8_init := by decide +kernel
set_option maxHeartbeats 4000000 in
set_option maxRecDepth 100000 in
theorem kX8_init (l : Launch) {r : Nat} {M : Mm} {C : (Nat → ClassId) → Nat → CE} (hr : isR 8 r) (hR1 : RI M (r + 1)) (hR71 : RI M (r + 71)) (hH1 : M (r + 141) 1 = 0) (hHs : ∀ i, i < 6 → M (r + 141 + 1) i = nI i) (hHR : ∀ i, i < 6 → RI M (r + 141 + 2 + 70 * i)) (hP : M (r + 564) 1 = 0 ∧ M (r + 564) 2 = 0 ∧ M (r + 564) 3 = 0 ∧ M (r + 564) 4 = -1 ∧ M (r + 564) 5 = -1) (hPA : ∀ j, j < 60 → M (r + 564 + 1) j = 0) (hSm : ∀ j, j < 8 → M (r + 566) j = 0) (hS : ∀ i, i < 2 → M (r + 567 + 71 * i) 1 = 0 ∧ RI M (r + 567 + 71 * i + 1)) (hC : ∀ ca B, C ca B r = .inr (8, [.null, .null, .null, .null, .null, .null])) : Cn l yX8_init wsX8_init rmX8_init (fun B => [.ref (B + r)]) (r + 1) (r + 709) C (fun ca B => fz ca B M r 709 (C ca B)) := by
  refine Cn.of (own := RX8) (by decide +kernel) rfl rfl (fun B => Nat.le_of_ble_eq_true rfl) ?_
  intro p e s m args below meth c D ca B Q hnm hao F K
  show GC p l e rmX8_init s m args below meth c Q D ca B (AB B) 2 0 0 (r + 1) (C ca B) 0 [(0, .ref (B + r))] []
  refine gc_aload_n F dX8_init_0 rfl 0 rfl ?_
  refine gc_obj F (by decide +kernel) (by decide +kernel) (by decide +kernel) dX8_init_1 (Nat.le_of_ble_eq_true rfl) (Nat.le_of_ble_eq_true rfl) ?_
  refine gc_aload_n F dX8_init_4 rfl 0 rfl ?_
  refine gc_new F (ci := 6) (fs := [.null, .null, .null, .null, .null, .int 0, .int 0, .int 0, .int 0, .int 0]) iX8_init_6 tyX6 tyX6_ok rfl (fun j hj => by rcases (show j = 0 ∨ j = 1 ∨ j = 2 ∨ j = 3 ∨ j = 4 ∨ j = 5 ∨ j = 6 ∨ j = 7 ∨ j = 8 ∨ j = 9 by omega) with rfl | rfl | rfl | rfl | rfl | rfl | rfl | rfl | rfl | rfl <;> rfl) (by decide +kernel) (by decide +kernel) (by decide +kernel) (Nat.le_of_ble_eq_true rfl) (Nat.le_of_ble_eq_true rfl) dX8_init_5 ?_
  refine gc_dup F dX8_init_8 rfl ?_
  refine gc_init F hao (kX6_init l (r := r + 1) (M := M) (C := fun ca B => va_up (C ca B) (r + 1) (.inr (6, [.null, .null, .null, .null, .null, .int 0, .int 0, .int 0, .int 0, .int 0]))) (sb8 hr).1 hR1 (fun ca B => va_up_self _ _ _)) (cwI 0 F.1.2.2.2.2 gX8_init_X6_init rfl rfl rfl (F.1.2.2.2.2 (.initialized RX6) (by decide +kernel)) (F.1.2.2.2.2 (.methodLink RX8 9 yX6_init) (by decide +kernel)) (F.1.2.2.2.2 (.instanceMethod yX6_init) (by decide +kernel)) rfl (by decide +kernel) ⟨Nat.le_of_ble_eq_true rfl, Nat.le_of_ble_eq_true rfl⟩) (fun _ _ _ z => z) rfl rfl rfl (Nat.le_of_ble_eq_true rfl) dX8_init_9 ⟨Nat.le_of_ble_eq_true rfl, Nat.le_of_ble_eq_true rfl⟩ ?_
  refine gc_put (ty := .object "ShadeCards$Ridge") F hnm iX8_init_8 tyX8 tyX8_ok nmX8 rfl (by omega) ((fz_out (by omega)).trans ((va_up_ne _ _ (by omega)).trans ((hC ca B)))) 0 (by decide) (by decide +kernel) rfl rfl (by decide +kernel) rfl rfl (Nat.le_of_ble_eq_true rfl) dX8_init_12 ?_
  refine gc_eq (C2 := fz ca B M (r + 1) 70 (va_up (C ca B) (r) (.inr (8, [.ref (B + (r + 1)), .null, .null, .null, .null, .null])))) (fun q _ => by simp only [va_up, fz]; (repeat' split) <;> first | rfl | omega) ?_
  refine gc_aload_n F dX8_init_15 rfl 0 rfl ?_
  refine gc_new F (ci := 6) (fs := [.null, .null, .null, .null, .null, .int 0, .int 0, .int 0, .int 0, .int 0]) iX8_init_6 tyX6 tyX6_ok rfl (fun j hj => by rcases (show j = 0 ∨ j = 1 ∨ j = 2 ∨ j = 3 ∨ j = 4 ∨ j = 5 ∨ j = 6 ∨ j = 7 ∨ j = 8 ∨ j = 9 by omega) with rfl | rfl | rfl | rfl | rfl | rfl | rfl | rfl | rfl | rfl <;> rfl) (by decide +kernel) (by decide +kernel) (by decide +kernel) (Nat.le_of_ble_eq_true rfl) (Nat.le_of_ble_eq_true rfl) dX8_init_16 ?_
  refine gc_dup F dX8_init_19 rfl ?_
  refine gc_init F hao (kX6_init l (r := r + 71) (M := M) (C := fun ca B => va_up (fz ca B M (r + 1) 70 (va_up (C ca B) (r) (.inr (8, [.ref (B + (r + 1)), .null, .null, .null, .null, .null])))) (r + 71) (.inr (6, [.null, .null, .null, .null, .null, .int 0, .int 0, .int 0, .int 0, .int 0]))) (sb8 hr).2.1 hR71 (fun ca B => va_up_self _ _ _)) (cwI 0 F.1.2.2.2.2 gX8_init_X6_init rfl rfl rfl (F.1.2.2.2.2 (.initialized RX6) (by decide +kernel)) (F.1.2.2.2.2 (.methodLink RX8 9 yX6_init) (by decide +kernel)) (F.1.2.2.2.2 (.instanceMethod yX6_init) (by decide +kernel)) rfl (by decide +kernel) ⟨Nat.le_of_ble_eq_true rfl, Nat.le_of_ble_eq_true rfl⟩) (fun _ _ _ z => z) rfl rfl rfl (Nat.le_of_ble_eq_true rfl) dX8_init_20 ⟨Nat.le_of_ble_eq_true rfl, Nat.le_of_ble_eq_true rfl⟩ ?_
  refine gc_put (ty := .object "ShadeCards$Ridge") F hnm iX8_init_8 tyX8 tyX8_ok nmX8 rfl (by omega) ((fz_out (by omega)).trans ((va_up_ne _ _ (by omega)).trans ((fz_out (by omega)).trans (va_up_self _ _ _)))) 1 (by decide) (by decide +kernel) rfl rfl (by decide +kernel) rfl rfl (Nat.le_of_ble_eq_true rfl) dX8_init_23 ?_
  refine gc_eq (C2 := fz ca B M (r + 71) 70 (fz ca B M (r + 1) 70 (va_up (C ca B) (r) (.inr (8, [.ref (B + (r + 1)), .ref (B + (r + 71)), .null, .null, .null, .null]))))) (fun q _ => by simp only [va_up, fz]; (repeat' split) <;> first | rfl | omega) ?_
  refine gc_aload_n F dX8_init_26 rfl 0 rfl ?_
  refine gc_new F (ci := 2) (fs := [.null, .int 0]) iX8_init_2 tyX2 tyX2_ok rfl (fun j hj => by rcases (show j = 0 ∨ j = 1 by omega) with rfl | rfl <;> rfl) (by decide +kernel) (by decide +kernel) (by decide +kernel) (Nat.le_of_ble_eq_true rfl) (Nat.le_of_ble_eq_true rfl) dX8_init_27 ?_
  refine gc_dup F dX8_init_30 rfl ?_
  refine gc_init F hao (kX2_init l (r := r + 141) (M := M) (C := fun ca B => va_up (fz ca B M (r + 71) 70 (fz ca B M (r + 1) 70 (va_up (C ca B) (r) (.inr (8, [.ref (B + (r + 1)), .ref (B + (r + 71)), .null, .null, .null, .null]))))) (r + 141) (.inr (2, [.null, .int 0]))) (sb8 hr).2.2.1 hH1 hHs hHR (fun ca B => va_up_self _ _ _)) (cwI 0 F.1.2.2.2.2 gX8_init_X2_init rfl rfl rfl (F.1.2.2.2.2 (.initialized RX2) (by decide +kernel)) (F.1.2.2.2.2 (.methodLink RX8 21 yX2_init) (by decide +kernel)) (F.1.2.2.2.2 (.instanceMethod yX2_init) (by decide +kernel)) rfl (by decide +kernel) ⟨Nat.le_of_ble_eq_true rfl, Nat.le_of_ble_eq_true rfl⟩) (fun _ _ _ z => z) rfl rfl rfl (Nat.le_of_ble_eq_true rfl) dX8_init_31 ⟨Nat.le_of_ble_eq_true rfl, Nat.le_of_ble_eq_true rfl⟩ ?_
  refine gc_put (ty := .object "ShadeCards$History") F hnm iX8_init_8 tyX8 tyX8_ok nmX8 rfl (by omega) ((fz_out (by omega)).trans ((va_up_ne _ _ (by omega)).trans ((fz_out (by omega)).trans ((fz_out (by omega)).trans (va_up_self _ _ _))))) 2 (by decide) (by decide +kernel) rfl rfl (by decide +kernel) rfl rfl (Nat.le_of_ble_eq_true rfl) dX8_init_34 ?_
  refine gc_eq (C2 := fz ca B M (r + 141) 422 (fz ca B M (r + 71) 70 (fz ca B M (r + 1) 70 (va_up (C ca B) (r) (.inr (8, [.ref (B + (r + 1)), .ref (B + (r + 71)), .ref (B + (r + 141)), .null, .null, .null])))))) (fun q _ => by simp only [va_up, fz]; (repeat' split) <;> first | rfl | omega) ?_
  refine gc_aload_n F dX8_init_37 rfl 0 rfl ?_
  refine gc_iconst F (v := 2) dX8_init_38 (by decide) ?_
  refine gc_anew F 6 rfl (by decide +kernel) (hao _ (by decide +kernel)) 2 rfl (by decide) (by decide) (Nat.le_of_ble_eq_true rfl) (Nat.le_of_ble_eq_true rfl) dX8_init_39 ?_
  refine gc_put (ty := .array (.object "ShadeCards$Slot")) F hnm iX8_init_8 tyX8 tyX8_ok nmX8 rfl (by omega) ((va_up_ne _ _ (by omega)).trans ((fz_out (by omega)).trans ((fz_out (by omega)).trans ((fz_out (by omega)).trans (va_up_self _ _ _))))) 3 (by decide) (by decide +kernel) rfl rfl (by decide +kernel) rfl rfl (Nat.le_of_ble_eq_true rfl) dX8_init_42 ?_
  refine gc_eq (C2 := va_up (fz ca B M (r + 141) 422 (fz ca B M (r + 71) 70 (fz ca B M (r + 1) 70 (va_up (C ca B) (r) (.inr (8, [.ref (B + (r + 1)), .ref (B + (r + 71)), .ref (B + (r + 141)), .ref (B + (r + 563)), .null, .null])))))) (r + 563) (.inl (ca 16, 2, .inr (.inr (.inr (.inr (fun _ => none))))))) (fun q _ => by simp only [va_up, fz]; (repeat' split) <;> first | rfl | omega) ?_
  refine gc_aload_n F dX8_init_45 rfl 0 rfl ?_
  refine gc_new F (ci := 5) (fs := [.null, .int 0, .int 0, .int 0, .int 0, .int 0]) iX8_init_5 tyX5 tyX5_ok rfl (fun j hj => by rcases (show j = 0 ∨ j = 1 ∨ j = 2 ∨ j = 3 ∨ j = 4 ∨ j = 5 by omega) with rfl | rfl | rfl | rfl | rfl | rfl <;> rfl) (by decide +kernel) (by decide +kernel) (by decide +kernel) (Nat.le_of_ble_eq_true rfl) (Nat.le_of_ble_eq_true rfl) dX8_init_46 ?_
  refine gc_dup F dX8_init_49 rfl ?_
  refine gc_initN F hao (kX5_init l (r := r + 564) (M := M) (C := fun ca B => va_up (va_up (fz ca B M (r + 141) 422 (fz ca B M (r + 71) 70 (fz ca B M (r + 1) 70 (va_up (C ca B) (r) (.inr (8, [.ref (B + (r + 1)), .ref (B + (r + 71)), .ref (B + (r + 141)), .ref (B + (r + 563)), .null, .null])))))) (r + 563) (.inl (ca 16, 2, .inr (.inr (.inr (.inr (fun _ => none))))))) (r + 564) (.inr (5, [.null, .int 0, .int 0, .int 0, .int 0, .int 0]))) (sb8 hr).2.2.2.2.1 hP.1 hP.2.1 hP.2.2.1 hP.2.2.2.1 hP.2.2.2.2 hPA (fun ca B => va_up_self _ _ _)) ⟨va_cnB 0 F.1.2.2.2.2 gX8_init_X5_init_n34 rfl rfl rfl (F.2.2.2.1.1 (RX8, 34, yX5_init, "ShadeCards") (by decide +kernel)) (F.1.2.2.2.2 (.initialized RX5) (by decide +kernel)) (by decide +kernel) ⟨Nat.le_of_ble_eq_true rfl, Nat.le_of_ble_eq_true rfl⟩, rfl, F.1.2.2.2.2 (.instanceMethod yX5_init) (by decide +kernel)⟩ (fun _ _ _ z => z) rfl rfl rfl (Nat.le_of_ble_eq_true rfl) dX8_init_50 ⟨Nat.le_of_ble_eq_true rfl, Nat.le_of_ble_eq_true rfl⟩ ?_
  refine gc_put (ty := .object "ShadeCards$Pad") F hnm iX8_init_8 tyX8 tyX8_ok nmX8 rfl (by omega) ((fz_out (by omega)).trans ((va_up_ne _ _ (by omega)).trans ((va_up_ne _ _ (by omega)).trans ((fz_out (by omega)).trans ((fz_out (by omega)).trans ((fz_out (by omega)).trans (va_up_self _ _ _))))))) 4 (by decide) (by decide +kernel) rfl rfl (by decide +kernel) rfl rfl (Nat.le_of_ble_eq_true rfl) dX8_init_53 ?_
  refine gc_eq (C2 := fz ca B M (r + 564) 2 (va_up (fz ca B M (r + 141) 422 (fz ca B M (r + 71) 70 (fz ca B M (r + 1) 70 (va_up (C ca B) (r) (.inr (8, [.ref (B + (r + 1)), .ref (B + (r + 71)), .ref (B + (r + 141)), .ref (B + (r + 563)), .ref (B + (r + 564)), .null])))))) (r + 563) (.inl (ca 16, 2, .inr (.inr (.inr (.inr (fun _ => none)))))))) (fun q _ => by simp only [va_up, fz]; (repeat' split) <;> first | rfl | omega) ?_
  refine gc_aload_n F dX8_init_56 rfl 0 rfl ?_
  refine gc_bipush F (v := 8) dX8_init_57 (by decide) ?_
  refine gc_newa F 1 rfl rfl rfl rfl (by decide +kernel) 8 rfl (by decide) (by decide) (Nat.le_of_ble_eq_true rfl) (Nat.le_of_ble_eq_true rfl) dX8_init_59 ?_
  refine gc_put (ty := .array .int) F hnm iX8_init_8 tyX8 tyX8_ok nmX8 rfl (by omega) ((va_up_ne _ _ (by omega)).trans ((fz_out (by omega)).trans ((va_up_ne _ _ (by omega)).trans ((fz_out (by omega)).trans ((fz_out (by omega)).trans ((fz_out (by omega)).trans (va_up_self _ _ _))))))) 5 (by decide) (by decide +kernel) rfl rfl (by decide +kernel) rfl rfl (Nat.le_of_ble_eq_true rfl) dX8_init_61 ?_
  refine gc_eq (C2 := va_up (fz ca B M (r + 564) 2 (va_up (fz ca B M (r + 141) 422 (fz ca B M (r + 71) 70 (fz ca B M (r + 1) 70 (va_up (C ca B) (r) (.inr (8, [.ref (B + (r + 1)), .ref (B + (r + 71)), .ref (B + (r + 141)), .ref (B + (r + 563)), .ref (B + (r + 564)), .ref (B + (r + 566))])))))) (r + 563) (.inl (ca 16, 2, .inr (.inr (.inr (.inr (fun _ => none)))))))) (r + 566) (.inl (ca 11, 8, .inl (fun _ => 0)))) (fun q _ => by simp only [va_up, fz]; (repeat' split) <;> first | rfl | omega) ?_
  have LP : ∀ (k i : Nat), i + k = 2 → GC p l e rmX8_init s m args below meth c Q D ca B (AB B) 2 (566 + 71 * i) (15388 + 1915 * i) (r + 567 + 71 * i) (LC1 ca B M r 709 563 (.inl (ca 16, 2, qn B i (r + 567) 71)) (C ca B)) 66 [(1, .int (nI i)), (0, .ref (B + r))] [] := by
    intro k
    induction k with
    | zero =>
      intro i hi
      obtain rfl : i = 2 := by omega
      refine gc_iload_n F dX8_init_66 rfl 0 rfl ?_
      refine gc_iconst F (v := 2) dX8_init_67 (by decide) ?_
      refine gc_icmpN_ge F 90 dX8_init_68 (by decide) 2 2 rfl rfl (by omega) (by omega) (fun _ => ?_) (fun hci => absurd hci (by omega))
      refine gc_widen (k := rmX8_init.cells) (i := rmX8_init.slots) (Nat.le_of_ble_eq_true rfl) (Nat.le_of_ble_eq_true rfl) ?_
      refine gc_n (n2 := r + 709) (by omega) ?_
      refine K _ _ _ dX8_init_90 (fun q hq H z => ?_)
      by_cases e1 : q = r + 563
      · rw [e1, LC1_a] at z; rw [e1, fz_in (by omega), cel16 (sb8 hr).2.2.2.1]
        refine at_q (fun j hj => (if_pos hj).trans ?_) z
        rw [show r + 563 + 4 + 71 * j = r + 567 + 71 * j by omega]
      · by_cases e5 : r ≤ q ∧ q < r + 709
        · rw [fz_in e5]; rw [LC1_in e5 e1] at z; exact z
        · rw [fz_out e5]; rw [LC1_out e5 e1] at z; exact z
    | succ k ih =>
      intro i hi
      refine gc_iload_n F dX8_init_66 rfl 0 rfl ?_
      refine gc_iconst F (v := 2) dX8_init_67 (by decide) ?_
      refine gc_icmpN_ge F 90 dX8_init_68 (by decide) i 2 rfl rfl (by omega) (by omega) (fun hci => absurd hci (by omega)) (fun _ => ?_)
      refine gc_aload_n F dX8_init_71 rfl 1 rfl ?_
      refine gc_get F iX8_init_8 rfl (by omega) ((LC1_in (by omega) (by omega)).trans (cel8 hr)) 3 (by decide) (by decide +kernel) rfl rfl dX8_init_72 ?_
      refine gc_iload_n F dX8_init_75 rfl 0 rfl ?_
      refine gc_new F (ci := 7) (fs := [.null, .int 0]) iX8_init_7 tyX7 tyX7_ok rfl (fun j hj => by rcases (show j = 0 ∨ j = 1 by omega) with rfl | rfl <;> rfl) (by decide +kernel) (by decide +kernel) (by decide +kernel) (by show 566 + 71 * i + 1 ≤ 708; omega) (by show 15388 + 1915 * i + 2 ≤ 19218; omega) dX8_init_76 ?_
      refine gc_dup F dX8_init_79 rfl ?_
      refine gc_initN F hao (kX7_init l (r := r + 567 + 71 * i) (M := M) (C := fun ca B => va_up (LC1 ca B M r 709 563 (.inl (ca 16, 2, qn B i (r + 567) 71)) (C ca B)) (r + 567 + 71 * i) (.inr (7, [.null, .int 0]))) (show isR 7 (r + 567 + 71 * i) from by have := el16 (sb8 hr).2.2.2.1 (show i < 2 by omega); rwa [show r + 563 + 4 + 71 * i = r + 567 + 71 * i by omega] at this) (hS i (by omega)).1 (hS i (by omega)).2 (fun ca B => va_up_self _ _ _)) ⟨va_cnB 0 F.1.2.2.2.2 gX8_init_X7_init_n43 rfl rfl rfl (F.2.2.2.1.1 (RX8, 43, yX7_init, "ShadeCards") (by decide +kernel)) (F.1.2.2.2.2 (.initialized RX7) (by decide +kernel)) (by decide +kernel) ⟨Nat.le_of_ble_eq_true rfl, Nat.le_of_ble_eq_true rfl⟩, rfl, F.1.2.2.2.2 (.instanceMethod yX7_init) (by decide +kernel)⟩ (fun _ _ _ z => z) rfl rfl rfl (Nat.le_of_ble_eq_true rfl) dX8_init_80 ⟨by show 566 + 71 * i + 1 + 70 ≤ 708; omega, by show 15388 + 1915 * i + 2 + 1913 ≤ 19218; omega⟩ ?_
      refine gc_aastore F (v := r + 567 + 71 * i) (ci := 7) (t0 := 6) (q0 := (RX7, TX7, 2)) (by omega) (by omega) rfl rfl ((fz_out (by omega)).trans ((va_up_ne _ _ (by omega)).trans LC1_a)) ((fz_in (by omega)).trans (cel7 (show isR 7 (r + 567 + 71 * i) from by have := el16 (sb8 hr).2.2.2.1 (show i < 2 by omega); rwa [show r + 563 + 4 + 71 * i = r + 567 + 71 * i by omega] at this))) i rfl (by omega) (by decide) dX8_init_83 ?_
      refine gc_iinc F (lv2 := [(1, _), (0, _)]) dX8_init_84 0 rfl (nI_1 _) (by decide) rfl ?_
      refine gc_goto F 66 dX8_init_87 (by decide) ?_
      refine gc_n (n2 := r + 567 + 71 * (i + 1)) (by omega) ?_
      refine gc_widen (k := 566 + 71 * (i + 1)) (i := 15388 + 1915 * (i + 1)) (by show 566 + 71 * i + 1 + 70 ≤ _; omega) (by show 15388 + 1915 * i + 2 + 1913 ≤ _; omega) ?_
      refine gc_eqv (fun q hq H z => ?_) (ih (i + 1) (by omega))
      by_cases e1 : q = r + 563
      · rw [e1] at z ⊢
        rw [va_up_self] at z; rw [LC1_a]
        exact at_q (fun j hj => qn_s rfl) z
      · rw [va_up_ne _ _ e1] at z
        by_cases e2 : r + 567 + 71 * i ≤ q ∧ q < r + 567 + 71 * i + 71
        · rw [fz_in e2] at z
          rw [LC1_in (by omega) e1]; exact z
        · rw [fz_out e2, va_up_ne _ _ (by omega)] at z
          by_cases e5 : r ≤ q ∧ q < r + 709
          · rw [LC1_in e5 e1] at z ⊢; exact z
          · rw [LC1_out e5 e1] at z ⊢; exact z
  refine gc_iconst F (v := nI 0) dX8_init_64 (by decide) ?_
  refine gc_istore_n F (lv2 := [(1, _), (0, _)]) dX8_init_65 rfl (by decide) rfl ?_
  refine gc_n (n2 := r + 567 + 71 * 0) (by omega) ?_
  refine gc_eqv (fun q hq H z => ?_) (LP 2 0 (by omega))
  by_cases e1 : q = r + 563
  · rw [e1] at z ⊢
    replace z : va_at D vwCl (B + (r + 563), _) H := (show (va_up (fz ca B M (r + 564) 2 (va_up (fz ca B M (r + 141) 422 (fz ca B M (r + 71) 70 (fz ca B M (r + 1) 70 (va_up (C ca B) (r) (.inr (8, [.ref (B + (r + 1)), .ref (B + (r + 71)), .ref (B + (r + 141)), .ref (B + (r + 563)), .ref (B + (r + 564)), .ref (B + (r + 566))])))))) (r + 563) (.inl (ca 16, 2, .inr (.inr (.inr (.inr (fun _ => none)))))))) (r + 566) (.inl (ca 11, 8, .inl (fun _ => 0)))) (r + 563) = _ from (va_up_ne _ _ (by omega)).trans ((fz_out (by omega)).trans (va_up_self _ _ _))) ▸ z
    rw [LC1_a]; exact at_q (fun j hj => (if_neg (by omega)).symm) z
  by_cases e5 : r ≤ q ∧ q < r + 709
  · rw [LC1_in e5 e1]
    by_cases e0 : q = r
    · rw [e0] at z ⊢
      replace z : va_at D vwCl (B + (r), _) H := (show (va_up (fz ca B M (r + 564) 2 (va_up (fz ca B M (r + 141) 422 (fz ca B M (r + 71) 70 (fz ca B M (r + 1) 70 (va_up (C ca B) (r) (.inr (8, [.ref (B + (r + 1)), .ref (B + (r + 71)), .ref (B + (r + 141)), .ref (B + (r + 563)), .ref (B + (r + 564)), .ref (B + (r + 566))])))))) (r + 563) (.inl (ca 16, 2, .inr (.inr (.inr (.inr (fun _ => none)))))))) (r + 566) (.inl (ca 11, 8, .inl (fun _ => 0)))) r = _ from (va_up_ne _ _ (by omega)).trans ((fz_out (by omega)).trans ((va_up_ne _ _ (by omega)).trans ((fz_out (by omega)).trans ((fz_out (by omega)).trans ((fz_out (by omega)).trans (va_up_self _ _ _))))))) ▸ z
      rw [cel8 hr]; exact z
    by_cases e566 : q = r + 566
    · rw [e566] at z ⊢
      replace z : va_at D vwCl (B + (r + 566), _) H := (show (va_up (fz ca B M (r + 564) 2 (va_up (fz ca B M (r + 141) 422 (fz ca B M (r + 71) 70 (fz ca B M (r + 1) 70 (va_up (C ca B) (r) (.inr (8, [.ref (B + (r + 1)), .ref (B + (r + 71)), .ref (B + (r + 141)), .ref (B + (r + 563)), .ref (B + (r + 564)), .ref (B + (r + 566))])))))) (r + 563) (.inl (ca 16, 2, .inr (.inr (.inr (.inr (fun _ => none)))))))) (r + 566) (.inl (ca 11, 8, .inl (fun _ => 0)))) (r + 566) = _ from va_up_self _ _ _) ▸ z
      rw [cel11 (sb8 hr).2.2.2.2.2]; exact at_i (fun j hj => (hSm j hj).symm) z
    rcases (show (r + 1 ≤ q ∧ q < r + 1 + 70) ∨ (r + 71 ≤ q ∧ q < r + 71 + 70) ∨ (r + 141 ≤ q ∧ q < r + 141 + 422) ∨ (r + 564 ≤ q ∧ q < r + 564 + 2) by omega) with h2 | h2 | h2 | h2
    · exact (show (va_up (fz ca B M (r + 564) 2 (va_up (fz ca B M (r + 141) 422 (fz ca B M (r + 71) 70 (fz ca B M (r + 1) 70 (va_up (C ca B) (r) (.inr (8, [.ref (B + (r + 1)), .ref (B + (r + 71)), .ref (B + (r + 141)), .ref (B + (r + 563)), .ref (B + (r + 564)), .ref (B + (r + 566))])))))) (r + 563) (.inl (ca 16, 2, .inr (.inr (.inr (.inr (fun _ => none)))))))) (r + 566) (.inl (ca 11, 8, .inl (fun _ => 0)))) q = cel ca B M q from (va_up_ne _ _ (by omega)).trans ((fz_out (by omega)).trans ((va_up_ne _ _ (by omega)).trans ((fz_out (by omega)).trans ((fz_out (by omega)).trans (fz_in h2)))))) ▸ z
    · exact (show (va_up (fz ca B M (r + 564) 2 (va_up (fz ca B M (r + 141) 422 (fz ca B M (r + 71) 70 (fz ca B M (r + 1) 70 (va_up (C ca B) (r) (.inr (8, [.ref (B + (r + 1)), .ref (B + (r + 71)), .ref (B + (r + 141)), .ref (B + (r + 563)), .ref (B + (r + 564)), .ref (B + (r + 566))])))))) (r + 563) (.inl (ca 16, 2, .inr (.inr (.inr (.inr (fun _ => none)))))))) (r + 566) (.inl (ca 11, 8, .inl (fun _ => 0)))) q = cel ca B M q from (va_up_ne _ _ (by omega)).trans ((fz_out (by omega)).trans ((va_up_ne _ _ (by omega)).trans ((fz_out (by omega)).trans (fz_in h2))))) ▸ z
    · exact (show (va_up (fz ca B M (r + 564) 2 (va_up (fz ca B M (r + 141) 422 (fz ca B M (r + 71) 70 (fz ca B M (r + 1) 70 (va_up (C ca B) (r) (.inr (8, [.ref (B + (r + 1)), .ref (B + (r + 71)), .ref (B + (r + 141)), .ref (B + (r + 563)), .ref (B + (r + 564)), .ref (B + (r + 566))])))))) (r + 563) (.inl (ca 16, 2, .inr (.inr (.inr (.inr (fun _ => none)))))))) (r + 566) (.inl (ca 11, 8, .inl (fun _ => 0)))) q = cel ca B M q from (va_up_ne _ _ (by omega)).trans ((fz_out (by omega)).trans ((va_up_ne _ _ (by omega)).trans (fz_in h2)))) ▸ z
    · exact (show (va_up (fz ca B M (r + 564) 2 (va_up (fz ca B M (r + 141) 422 (fz ca B M (r + 71) 70 (fz ca B M (r + 1) 70 (va_up (C ca B) (r) (.inr (8, [.ref (B + (r + 1)), .ref (B + (r + 71)), .ref (B + (r + 141)), .ref (B + (r + 563)), .ref (B + (r + 564)), .ref (B + (r + 566))])))))) (r + 563) (.inl (ca 16, 2, .inr (.inr (.inr (.inr (fun _ => none)))))))) (r + 566) (.inl (ca 11, 8, .inl (fun _ => 0)))) q = cel ca B M q from (va_up_ne _ _ (by omega)).trans (fz_in h2)) ▸ z
  · rw [LC1_out e5 e1]; exact (show (va_up (fz ca B M (r + 564) 2 (va_up (fz ca B M (r + 141) 422 (fz ca B M (r + 71) 70 (fz ca B M (r + 1) 70 (va_up (C ca B) (r) (.inr (8, [.ref (B + (r + 1)), .ref (B + (r + 71)), .ref (B + (r + 141)), .ref (B + (r + 563)), .ref (B + (r + 564)), .ref (B + (r + 566))])))))) (r + 563) (.inl (ca 16, 2, .inr (.inr (.inr (.inr (fun _ => none)))))))) (r + 566) (.inl (ca 11, 8, .inl (fun _ => 0)))) q = C ca B q from (va_up_ne _ _ (by omega)).trans ((fz_out (by omega)).trans ((va_up_ne _ _ (by omega)).trans ((fz_out (by omega)).trans ((fz_out (by omega)).trans ((fz_out (by omega)).trans ((va_up_ne _ _ (by omega)).trans (rfl)))))))) ▸ z
