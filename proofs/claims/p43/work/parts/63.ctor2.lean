/-- what a ridge is at its start -/
def RI (M : Mm) (r : Nat) : Prop := (M r 5 = 0 ∧ M r 6 = 3 ∧ M r 7 = 3 ∧ M r 8 = 0 ∧ M r 9 = 0) ∧ (∀ j, j < 24 → M (r + 4) j = 0) ∧ (∀ j, j < 96 → M (r + 6) j = -1) ∧ (∀ i, i < 8 → (M (r + 7 + 5 * i) 0 = 3 ∧ M (r + 7 + 5 * i) 1 = 0 ∧ M (r + 7 + 5 * i) 2 = 4 ∧ M (r + 7 + 5 * i) 3 = nI i - nI i / 4 * 4 ∧ M (r + 7 + 5 * i) 4 = 0 ∧ M (r + 7 + 5 * i) 5 = 0) ∧ (∀ j, j < 96 → M (r + 7 + 5 * i + 2) j = -1) ∧ (∀ j, j < 96 → M (r + 7 + 5 * i + 4) j = -1)) ∧ (∀ i, i < 3 → M (r + 47 + i) 0 = -1 ∧ M (r + 47 + i) 1 = 0 ∧ M (r + 47 + i) 2 = 0 ∧ M (r + 47 + i) 3 = 0 ∧ M (r + 47 + i) 4 = 0) ∧ (∀ i, i < 20 → M (r + 50 + i) 0 = -1 ∧ M (r + 50 + i) 1 = 0 ∧ M (r + 50 + i) 2 = 0 ∧ M (r + 50 + i) 3 = 0 ∧ M (r + 50 + i) 4 = 0 ∧ M (r + 50 + i) 5 = 0)
def qn (B i a d : Nat) : (Nat → Int32) ⊕ (Nat → Int64) ⊕ (Nat → UInt32) ⊕ (Nat → UInt64) ⊕ (Nat → Option Nat) := .inr (.inr (.inr (.inr (fun j => if j < i then some (B + (a + d * j)) else none))))
/-- a ridge on its way: i chimneys, k observers, e notes -/
def RC (ca : Nat → ClassId) (B : Nat) (M : Mm) (r : Nat) (C : CE) (i k e : Nat) : CE := fun q => if q = r + 1 then .inl (ca 12, 8, qn B i (r + 7) 5) else if q = r + 2 then .inl (ca 14, 3, qn B k (r + 47) 1) else if q = r + 3 then .inl (ca 13, 20, qn B e (r + 50) 1) else if r ≤ q ∧ q < r + 70 then cel ca B M q else C q
section RCS
variable {ca : Nat → ClassId} {B : Nat} {M : Mm} {r : Nat} {C : CE} {i k e q : Nat}
theorem RC_1 : RC ca B M r C i k e (r + 1) = .inl (ca 12, 8, qn B i (r + 7) 5) := if_pos rfl
theorem RC_2 : RC ca B M r C i k e (r + 2) = .inl (ca 14, 3, qn B k (r + 47) 1) := by unfold RC; rw [if_neg (by omega), if_pos rfl]
theorem RC_3 : RC ca B M r C i k e (r + 3) = .inl (ca 13, 20, qn B e (r + 50) 1) := by unfold RC; rw [if_neg (by omega), if_neg (by omega), if_pos rfl]
theorem RC_in (h : r ≤ q ∧ q < r + 70) (h1 : q ≠ r + 1) (h2 : q ≠ r + 2) (h3 : q ≠ r + 3) : RC ca B M r C i k e q = cel ca B M q := by unfold RC; rw [if_neg h1, if_neg h2, if_neg h3, if_pos h]
theorem RC_out (h : ¬ (r ≤ q ∧ q < r + 70)) : RC ca B M r C i k e q = C q := by unfold RC; rw [if_neg (by omega), if_neg (by omega), if_neg (by omega), if_neg h]
theorem RC_r (hr : isR 6 r) : RC ca B M r C i k e r = .inr (6, fs6 B M r) := by rw [RC_in (by omega) (by omega) (by omega) (by omega), cel6 hr]
theorem qn_s {i a d : Nat} {f : Nat → Option Nat} {j : Nat} (hf : f = fun j => if j < i then some (B + (a + d * j)) else none) : va_up f i (some (B + (a + d * i))) j = if j < i + 1 then some (B + (a + d * j)) else none := by
  subst hf
  by_cases hj : j = i
  · subst hj; rw [va_up_self, if_pos (by omega)]
  · rw [va_up_ne _ _ hj]
    by_cases h : j < i
    · rw [if_pos h, if_pos (by omega)]
    · rw [if_neg h, if_neg (by omega)]
end RCS

abbrev rmX6_init : Room := { frames := 3, cells := 69, slots := 1903, locals := 64 }
theorem iX6_init_0 : ∀ w ∈ u_ws RX0 TX0 8, w ∈ wsX6_init := by decide +kernel
theorem iX6_init_1 : ∀ w ∈ u_ws RX1 TX1 1, w ∈ wsX6_init := by decide +kernel
theorem iX6_init_3 : ∀ w ∈ u_ws RX3 TX3 6, w ∈ wsX6_init := by decide +kernel
theorem iX6_init_4 : ∀ w ∈ u_ws RX4 TX4 5, w ∈ wsX6_init := by decide +kernel
theorem iX6_init_6 : ∀ w ∈ u_ws RX6 TX6 10, w ∈ wsX6_init := by decide +kernel
set_option maxHeartbeats 4000000 in
set_option maxRecDepth 100000 in
theorem kX6_init (l : Launch) {r : Nat} {M : Mm} {C : (Nat → ClassId) → Nat → CE} (hr : isR 6 r) (hM : RI M r) (hC : ∀ ca B, C ca B r = .inr (6, [.null, .null, .null, .null, .null, .int 0, .int 0, .int 0, .int 0, .int 0])) : Cn l yX6_init wsX6_init rmX6_init (fun B => [.ref (B + r)]) (r + 1) (r + 70) C (fun ca B => fz ca B M r 70 (C ca B)) := by
  refine Cn.of (own := RX6) (by decide +kernel) rfl rfl (fun B => Nat.le_of_ble_eq_true rfl) ?_
  intro p e s m args below meth c D ca B Q hnm hao F K
  show GC p l e rmX6_init s m args below meth c Q D ca B (AB B) 2 0 0 (r + 1) (C ca B) 0 [(0, .ref (B + r))] []
  refine gc_aload_n F dX6_init_0 rfl 0 rfl ?_
  refine gc_obj F (by decide +kernel) (by decide +kernel) (by decide +kernel) dX6_init_1 (Nat.le_of_ble_eq_true rfl) (Nat.le_of_ble_eq_true rfl) ?_
  refine gc_aload_n F dX6_init_4 rfl 0 rfl ?_
  refine gc_bipush F (v := 8) dX6_init_5 (by decide) ?_
  refine gc_anew F 2 rfl (by decide +kernel) (hao _ (by decide +kernel)) 8 rfl (by decide) (by decide) (Nat.le_of_ble_eq_true rfl) (Nat.le_of_ble_eq_true rfl) dX6_init_7 ?_
  refine gc_put (ty := .array (.object "ShadeCards$Chimney")) F hnm iX6_init_6 tyX6 tyX6_ok nmX6 rfl (by omega) ((va_up_ne _ _ (by omega)).trans ((hC ca B))) 0 (by decide) (by decide +kernel) rfl rfl (by decide +kernel) rfl rfl (Nat.le_of_ble_eq_true rfl) dX6_init_10 ?_
  refine gc_eq (C2 := va_up (va_up (C ca B) (r) (.inr (6, [.ref (B + (r + 1)), .null, .null, .null, .null, .int 0, .int 0, .int 0, .int 0, .int 0]))) (r + 1) (.inl (ca 12, 8, .inr (.inr (.inr (.inr (fun _ => none))))))) (fun q _ => by simp only [va_up, fz]; (repeat' split) <;> first | rfl | omega) ?_
  refine gc_aload_n F dX6_init_13 rfl 0 rfl ?_
  refine gc_iconst F (v := 3) dX6_init_14 (by decide) ?_
  refine gc_anew F 4 rfl (by decide +kernel) (hao _ (by decide +kernel)) 3 rfl (by decide) (by decide) (Nat.le_of_ble_eq_true rfl) (Nat.le_of_ble_eq_true rfl) dX6_init_15 ?_
  refine gc_put (ty := .array (.object "ShadeCards$Observer")) F hnm iX6_init_6 tyX6 tyX6_ok nmX6 rfl (by omega) ((va_up_ne _ _ (by omega)).trans ((va_up_ne _ _ (by omega)).trans (va_up_self _ _ _))) 1 (by decide) (by decide +kernel) rfl rfl (by decide +kernel) rfl rfl (Nat.le_of_ble_eq_true rfl) dX6_init_18 ?_
  refine gc_eq (C2 := va_up (va_up (va_up (C ca B) (r) (.inr (6, [.ref (B + (r + 1)), .ref (B + (r + 2)), .null, .null, .null, .int 0, .int 0, .int 0, .int 0, .int 0]))) (r + 1) (.inl (ca 12, 8, .inr (.inr (.inr (.inr (fun _ => none))))))) (r + 2) (.inl (ca 14, 3, .inr (.inr (.inr (.inr (fun _ => none))))))) (fun q _ => by simp only [va_up, fz]; (repeat' split) <;> first | rfl | omega) ?_
  refine gc_aload_n F dX6_init_21 rfl 0 rfl ?_
  refine gc_bipush F (v := 20) dX6_init_22 (by decide) ?_
  refine gc_anew F 3 rfl (by decide +kernel) (hao _ (by decide +kernel)) 20 rfl (by decide) (by decide) (Nat.le_of_ble_eq_true rfl) (Nat.le_of_ble_eq_true rfl) dX6_init_24 ?_
  refine gc_put (ty := .array (.object "ShadeCards$Notice")) F hnm iX6_init_6 tyX6 tyX6_ok nmX6 rfl (by omega) ((va_up_ne _ _ (by omega)).trans ((va_up_ne _ _ (by omega)).trans ((va_up_ne _ _ (by omega)).trans (va_up_self _ _ _)))) 2 (by decide) (by decide +kernel) rfl rfl (by decide +kernel) rfl rfl (Nat.le_of_ble_eq_true rfl) dX6_init_27 ?_
  refine gc_eq (C2 := va_up (va_up (va_up (va_up (C ca B) (r) (.inr (6, [.ref (B + (r + 1)), .ref (B + (r + 2)), .ref (B + (r + 3)), .null, .null, .int 0, .int 0, .int 0, .int 0, .int 0]))) (r + 1) (.inl (ca 12, 8, .inr (.inr (.inr (.inr (fun _ => none))))))) (r + 2) (.inl (ca 14, 3, .inr (.inr (.inr (.inr (fun _ => none))))))) (r + 3) (.inl (ca 13, 20, .inr (.inr (.inr (.inr (fun _ => none))))))) (fun q _ => by simp only [va_up, fz]; (repeat' split) <;> first | rfl | omega) ?_
  refine gc_aload_n F dX6_init_30 rfl 0 rfl ?_
  refine gc_bipush F (v := 24) dX6_init_31 (by decide) ?_
  refine gc_newa F 1 rfl rfl rfl rfl (by decide +kernel) 24 rfl (by decide) (by decide) (Nat.le_of_ble_eq_true rfl) (Nat.le_of_ble_eq_true rfl) dX6_init_33 ?_
  refine gc_put (ty := .array .int) F hnm iX6_init_6 tyX6 tyX6_ok nmX6 rfl (by omega) ((va_up_ne _ _ (by omega)).trans ((va_up_ne _ _ (by omega)).trans ((va_up_ne _ _ (by omega)).trans ((va_up_ne _ _ (by omega)).trans (va_up_self _ _ _))))) 3 (by decide) (by decide +kernel) rfl rfl (by decide +kernel) rfl rfl (Nat.le_of_ble_eq_true rfl) dX6_init_35 ?_
  refine gc_eq (C2 := va_up (va_up (va_up (va_up (va_up (C ca B) (r) (.inr (6, [.ref (B + (r + 1)), .ref (B + (r + 2)), .ref (B + (r + 3)), .ref (B + (r + 4)), .null, .int 0, .int 0, .int 0, .int 0, .int 0]))) (r + 1) (.inl (ca 12, 8, .inr (.inr (.inr (.inr (fun _ => none))))))) (r + 2) (.inl (ca 14, 3, .inr (.inr (.inr (.inr (fun _ => none))))))) (r + 3) (.inl (ca 13, 20, .inr (.inr (.inr (.inr (fun _ => none))))))) (r + 4) (.inl (ca 11, 24, .inl (fun _ => 0)))) (fun q _ => by simp only [va_up, fz]; (repeat' split) <;> first | rfl | omega) ?_
  refine gc_aload_n F dX6_init_38 rfl 0 rfl ?_
  refine gc_new F (ci := 1) (fs := [.null]) iX6_init_1 tyX1 tyX1_ok rfl (fun j hj => by rcases (show j = 0 by omega) with rfl <;> rfl) (by decide +kernel) (by decide +kernel) (by decide +kernel) (Nat.le_of_ble_eq_true rfl) (Nat.le_of_ble_eq_true rfl) dX6_init_39 ?_
  refine gc_dup F dX6_init_42 rfl ?_
  refine gc_init F hao (kX1_init l (r := r + 5) (M := M) (C := fun ca B => va_up (va_up (va_up (va_up (va_up (va_up (C ca B) (r) (.inr (6, [.ref (B + (r + 1)), .ref (B + (r + 2)), .ref (B + (r + 3)), .ref (B + (r + 4)), .null, .int 0, .int 0, .int 0, .int 0, .int 0]))) (r + 1) (.inl (ca 12, 8, .inr (.inr (.inr (.inr (fun _ => none))))))) (r + 2) (.inl (ca 14, 3, .inr (.inr (.inr (.inr (fun _ => none))))))) (r + 3) (.inl (ca 13, 20, .inr (.inr (.inr (.inr (fun _ => none))))))) (r + 4) (.inl (ca 11, 24, .inl (fun _ => 0)))) (r + 5) (.inr (1, [.null]))) (sb6 hr).2.2.2.2 hM.2.2.1 (fun ca B => va_up_self _ _ _)) (cwI 0 F.1.2.2.2.2 gX6_init_X1_init rfl rfl rfl (F.1.2.2.2.2 (.initialized RX1) (by decide +kernel)) (F.1.2.2.2.2 (.methodLink RX6 35 yX1_init) (by decide +kernel)) (F.1.2.2.2.2 (.instanceMethod yX1_init) (by decide +kernel)) rfl (by decide +kernel) ⟨Nat.le_of_ble_eq_true rfl, Nat.le_of_ble_eq_true rfl⟩) (fun _ _ _ z => z) rfl rfl rfl (Nat.le_of_ble_eq_true rfl) dX6_init_43 ⟨Nat.le_of_ble_eq_true rfl, Nat.le_of_ble_eq_true rfl⟩ ?_
  refine gc_put (ty := .object "ShadeCards$DayRow") F hnm iX6_init_6 tyX6 tyX6_ok nmX6 rfl (by omega) ((fz_out (by omega)).trans ((va_up_ne _ _ (by omega)).trans ((va_up_ne _ _ (by omega)).trans ((va_up_ne _ _ (by omega)).trans ((va_up_ne _ _ (by omega)).trans ((va_up_ne _ _ (by omega)).trans (va_up_self _ _ _))))))) 4 (by decide) (by decide +kernel) rfl rfl (by decide +kernel) rfl rfl (Nat.le_of_ble_eq_true rfl) dX6_init_46 ?_
  refine gc_eq (C2 := fz ca B M (r + 5) 2 (va_up (va_up (va_up (va_up (va_up (C ca B) (r) (.inr (6, [.ref (B + (r + 1)), .ref (B + (r + 2)), .ref (B + (r + 3)), .ref (B + (r + 4)), .ref (B + (r + 5)), .int 0, .int 0, .int 0, .int 0, .int 0]))) (r + 1) (.inl (ca 12, 8, .inr (.inr (.inr (.inr (fun _ => none))))))) (r + 2) (.inl (ca 14, 3, .inr (.inr (.inr (.inr (fun _ => none))))))) (r + 3) (.inl (ca 13, 20, .inr (.inr (.inr (.inr (fun _ => none))))))) (r + 4) (.inl (ca 11, 24, .inl (fun _ => 0))))) (fun q _ => by simp only [va_up, fz]; (repeat' split) <;> first | rfl | omega) ?_
  refine gc_aload_n F dX6_init_49 rfl 0 rfl ?_
  refine gc_iconst F (v := 0) dX6_init_50 (by decide) ?_
  refine gc_put (ty := .int) F hnm iX6_init_6 tyX6 tyX6_ok nmX6 rfl (by omega) ((fz_out (by omega)).trans ((va_up_ne _ _ (by omega)).trans ((va_up_ne _ _ (by omega)).trans ((va_up_ne _ _ (by omega)).trans ((va_up_ne _ _ (by omega)).trans (va_up_self _ _ _)))))) 5 (by decide) (by decide +kernel) rfl rfl (by decide +kernel) rfl rfl (Nat.le_of_ble_eq_true rfl) dX6_init_51 ?_
  refine gc_eq (C2 := fz ca B M (r + 5) 2 (va_up (va_up (va_up (va_up (va_up (C ca B) (r) (.inr (6, [.ref (B + (r + 1)), .ref (B + (r + 2)), .ref (B + (r + 3)), .ref (B + (r + 4)), .ref (B + (r + 5)), .int 0, .int 0, .int 0, .int 0, .int 0]))) (r + 1) (.inl (ca 12, 8, .inr (.inr (.inr (.inr (fun _ => none))))))) (r + 2) (.inl (ca 14, 3, .inr (.inr (.inr (.inr (fun _ => none))))))) (r + 3) (.inl (ca 13, 20, .inr (.inr (.inr (.inr (fun _ => none))))))) (r + 4) (.inl (ca 11, 24, .inl (fun _ => 0))))) (fun q _ => by simp only [va_up, fz]; (repeat' split) <;> first | rfl | omega) ?_
  refine gc_aload_n F dX6_init_54 rfl 0 rfl ?_
  refine gc_iconst F (v := 3) dX6_init_55 (by decide) ?_
  refine gc_put (ty := .int) F hnm iX6_init_6 tyX6 tyX6_ok nmX6 rfl (by omega) ((fz_out (by omega)).trans ((va_up_ne _ _ (by omega)).trans ((va_up_ne _ _ (by omega)).trans ((va_up_ne _ _ (by omega)).trans ((va_up_ne _ _ (by omega)).trans (va_up_self _ _ _)))))) 6 (by decide) (by decide +kernel) rfl rfl (by decide +kernel) rfl rfl (Nat.le_of_ble_eq_true rfl) dX6_init_56 ?_
  refine gc_eq (C2 := fz ca B M (r + 5) 2 (va_up (va_up (va_up (va_up (va_up (C ca B) (r) (.inr (6, [.ref (B + (r + 1)), .ref (B + (r + 2)), .ref (B + (r + 3)), .ref (B + (r + 4)), .ref (B + (r + 5)), .int 0, .int 3, .int 0, .int 0, .int 0]))) (r + 1) (.inl (ca 12, 8, .inr (.inr (.inr (.inr (fun _ => none))))))) (r + 2) (.inl (ca 14, 3, .inr (.inr (.inr (.inr (fun _ => none))))))) (r + 3) (.inl (ca 13, 20, .inr (.inr (.inr (.inr (fun _ => none))))))) (r + 4) (.inl (ca 11, 24, .inl (fun _ => 0))))) (fun q _ => by simp only [va_up, fz]; (repeat' split) <;> first | rfl | omega) ?_
  refine gc_aload_n F dX6_init_59 rfl 0 rfl ?_
  refine gc_iconst F (v := 3) dX6_init_60 (by decide) ?_
  refine gc_put (ty := .int) F hnm iX6_init_6 tyX6 tyX6_ok nmX6 rfl (by omega) ((fz_out (by omega)).trans ((va_up_ne _ _ (by omega)).trans ((va_up_ne _ _ (by omega)).trans ((va_up_ne _ _ (by omega)).trans ((va_up_ne _ _ (by omega)).trans (va_up_self _ _ _)))))) 7 (by decide) (by decide +kernel) rfl rfl (by decide +kernel) rfl rfl (Nat.le_of_ble_eq_true rfl) dX6_init_61 ?_
  refine gc_eq (C2 := fz ca B M (r + 5) 2 (va_up (va_up (va_up (va_up (va_up (C ca B) (r) (.inr (6, [.ref (B + (r + 1)), .ref (B + (r + 2)), .ref (B + (r + 3)), .ref (B + (r + 4)), .ref (B + (r + 5)), .int 0, .int 3, .int 3, .int 0, .int 0]))) (r + 1) (.inl (ca 12, 8, .inr (.inr (.inr (.inr (fun _ => none))))))) (r + 2) (.inl (ca 14, 3, .inr (.inr (.inr (.inr (fun _ => none))))))) (r + 3) (.inl (ca 13, 20, .inr (.inr (.inr (.inr (fun _ => none))))))) (r + 4) (.inl (ca 11, 24, .inl (fun _ => 0))))) (fun q _ => by simp only [va_up, fz]; (repeat' split) <;> first | rfl | omega) ?_
  refine gc_aload_n F dX6_init_64 rfl 0 rfl ?_
  refine gc_iconst F (v := 0) dX6_init_65 (by decide) ?_
  refine gc_put (ty := .int) F hnm iX6_init_6 tyX6 tyX6_ok nmX6 rfl (by omega) ((fz_out (by omega)).trans ((va_up_ne _ _ (by omega)).trans ((va_up_ne _ _ (by omega)).trans ((va_up_ne _ _ (by omega)).trans ((va_up_ne _ _ (by omega)).trans (va_up_self _ _ _)))))) 8 (by decide) (by decide +kernel) rfl rfl (by decide +kernel) rfl rfl (Nat.le_of_ble_eq_true rfl) dX6_init_66 ?_
  refine gc_eq (C2 := fz ca B M (r + 5) 2 (va_up (va_up (va_up (va_up (va_up (C ca B) (r) (.inr (6, [.ref (B + (r + 1)), .ref (B + (r + 2)), .ref (B + (r + 3)), .ref (B + (r + 4)), .ref (B + (r + 5)), .int 0, .int 3, .int 3, .int 0, .int 0]))) (r + 1) (.inl (ca 12, 8, .inr (.inr (.inr (.inr (fun _ => none))))))) (r + 2) (.inl (ca 14, 3, .inr (.inr (.inr (.inr (fun _ => none))))))) (r + 3) (.inl (ca 13, 20, .inr (.inr (.inr (.inr (fun _ => none))))))) (r + 4) (.inl (ca 11, 24, .inl (fun _ => 0))))) (fun q _ => by simp only [va_up, fz]; (repeat' split) <;> first | rfl | omega) ?_
  refine gc_aload_n F dX6_init_69 rfl 0 rfl ?_
  refine gc_iconst F (v := 0) dX6_init_70 (by decide) ?_
  refine gc_put (ty := .int) F hnm iX6_init_6 tyX6 tyX6_ok nmX6 rfl (by omega) ((fz_out (by omega)).trans ((va_up_ne _ _ (by omega)).trans ((va_up_ne _ _ (by omega)).trans ((va_up_ne _ _ (by omega)).trans ((va_up_ne _ _ (by omega)).trans (va_up_self _ _ _)))))) 9 (by decide) (by decide +kernel) rfl rfl (by decide +kernel) rfl rfl (Nat.le_of_ble_eq_true rfl) dX6_init_71 ?_
  refine gc_eq (C2 := fz ca B M (r + 5) 2 (va_up (va_up (va_up (va_up (va_up (C ca B) (r) (.inr (6, [.ref (B + (r + 1)), .ref (B + (r + 2)), .ref (B + (r + 3)), .ref (B + (r + 4)), .ref (B + (r + 5)), .int 0, .int 3, .int 3, .int 0, .int 0]))) (r + 1) (.inl (ca 12, 8, .inr (.inr (.inr (.inr (fun _ => none))))))) (r + 2) (.inl (ca 14, 3, .inr (.inr (.inr (.inr (fun _ => none))))))) (r + 3) (.inl (ca 13, 20, .inr (.inr (.inr (.inr (fun _ => none))))))) (r + 4) (.inl (ca 11, 24, .inl (fun _ => 0))))) (fun q _ => by simp only [va_up, fz]; (repeat' split) <;> first | rfl | omega) ?_
  have LN : ∀ (k i : Nat), i + k = 20 → GC p l e rmX6_init s m args below meth c Q D ca B (AB B) 2 (49 + 1 * i) (1783 + 6 * i) (r + 50 + 1 * i) (RC ca B M r (C ca B) 8 3 i) 132 [(1, .int (nI i)), (0, .ref (B + r))] [] := by
    intro k
    induction k with
    | zero =>
      intro i hi
      obtain rfl : i = 20 := by omega
      refine gc_iload_n F dX6_init_132 rfl 0 rfl ?_
      refine gc_bipush F (v := 20) dX6_init_133 (by decide) ?_
      refine gc_icmpN_ge F 157 dX6_init_135 (by decide) 20 20 rfl rfl (by omega) (by omega) (fun _ => ?_) (fun hci => absurd hci (by omega))
      refine gc_widen (k := rmX6_init.cells) (i := rmX6_init.slots) (Nat.le_of_ble_eq_true rfl) (Nat.le_of_ble_eq_true rfl) ?_
      refine gc_n (n2 := r + 70) (by omega) ?_
      refine K _ _ _ dX6_init_157 (fun q hq H z => ?_)
      by_cases e5 : r ≤ q ∧ q < r + 70
      · rw [fz_in e5]
        by_cases e1 : q = r + 1
        · rw [e1, RC_1] at z; rw [e1, cel12 (sb6 hr).1]
          refine at_q (fun j hj => (if_pos hj).trans ?_) z
          rw [show r + 1 + 6 + 5 * j = r + 7 + 5 * j by omega]
        · by_cases e2 : q = r + 2
          · rw [e2, RC_2] at z; rw [e2, cel14 (sb6 hr).2.1]
            refine at_q (fun j hj => (if_pos hj).trans ?_) z
            rw [show r + 2 + 45 + 1 * j = r + 47 + 1 * j by omega]
          · by_cases e3 : q = r + 3
            · rw [e3, RC_3] at z; rw [e3, cel13 (sb6 hr).2.2.1]
              refine at_q (fun j hj => (if_pos hj).trans ?_) z
              rw [show r + 3 + 47 + 1 * j = r + 50 + 1 * j by omega]
            · rw [RC_in e5 e1 e2 e3] at z; exact z
      · rw [fz_out e5]; rw [RC_out e5] at z; exact z
    | succ k ih =>
      intro i hi
      refine gc_iload_n F dX6_init_132 rfl 0 rfl ?_
      refine gc_bipush F (v := 20) dX6_init_133 (by decide) ?_
      refine gc_icmpN_ge F 157 dX6_init_135 (by decide) i 20 rfl rfl (by omega) (by omega) (fun hci => absurd hci (by omega)) (fun _ => ?_)
      refine gc_aload_n F dX6_init_138 rfl 1 rfl ?_
      refine gc_get F iX6_init_6 rfl (by omega) (RC_r hr) 2 (by decide) (by decide +kernel) rfl rfl dX6_init_139 ?_
      refine gc_iload_n F dX6_init_142 rfl 0 rfl ?_
      refine gc_new F (ci := 3) (fs := [.int 0, .int 0, .int 0, .int 0, .int 0, .int 0]) iX6_init_3 tyX3 tyX3_ok rfl (fun j hj => by rcases (show j = 0 ∨ j = 1 ∨ j = 2 ∨ j = 3 ∨ j = 4 ∨ j = 5 by omega) with rfl | rfl | rfl | rfl | rfl | rfl <;> rfl) (by decide +kernel) (by decide +kernel) (by decide +kernel) (by show 49 + 1 * i + 1 ≤ 69; omega) (by show 1783 + 6 * i + 6 ≤ 1903; omega) dX6_init_143 ?_
      refine gc_dup F dX6_init_146 rfl ?_
      refine gc_initN F hao (kX3_init l (r := r + 50 + 1 * i) (M := M) (C := fun ca B => va_up (RC ca B M r (C ca B) 8 3 i) (r + 50 + 1 * i) (.inr (3, [.int 0, .int 0, .int 0, .int 0, .int 0, .int 0]))) (show isR 3 (r + 50 + 1 * i) from by have := el13 (sb6 hr).2.2.1 (show i < 20 by omega); rwa [show r + 3 + 47 + 1 * i = r + 50 + 1 * i by omega] at this) (show M (r + 50 + 1 * i) 0 = -1 ∧ M (r + 50 + 1 * i) 1 = 0 ∧ M (r + 50 + 1 * i) 2 = 0 ∧ M (r + 50 + 1 * i) 3 = 0 ∧ M (r + 50 + 1 * i) 4 = 0 ∧ M (r + 50 + 1 * i) 5 = 0 from by rw [Nat.one_mul]; exact hM.2.2.2.2.2 i (by omega)).1 (show M (r + 50 + 1 * i) 0 = -1 ∧ M (r + 50 + 1 * i) 1 = 0 ∧ M (r + 50 + 1 * i) 2 = 0 ∧ M (r + 50 + 1 * i) 3 = 0 ∧ M (r + 50 + 1 * i) 4 = 0 ∧ M (r + 50 + 1 * i) 5 = 0 from by rw [Nat.one_mul]; exact hM.2.2.2.2.2 i (by omega)).2.1 (show M (r + 50 + 1 * i) 0 = -1 ∧ M (r + 50 + 1 * i) 1 = 0 ∧ M (r + 50 + 1 * i) 2 = 0 ∧ M (r + 50 + 1 * i) 3 = 0 ∧ M (r + 50 + 1 * i) 4 = 0 ∧ M (r + 50 + 1 * i) 5 = 0 from by rw [Nat.one_mul]; exact hM.2.2.2.2.2 i (by omega)).2.2.1 (show M (r + 50 + 1 * i) 0 = -1 ∧ M (r + 50 + 1 * i) 1 = 0 ∧ M (r + 50 + 1 * i) 2 = 0 ∧ M (r + 50 + 1 * i) 3 = 0 ∧ M (r + 50 + 1 * i) 4 = 0 ∧ M (r + 50 + 1 * i) 5 = 0 from by rw [Nat.one_mul]; exact hM.2.2.2.2.2 i (by omega)).2.2.2.1 (show M (r + 50 + 1 * i) 0 = -1 ∧ M (r + 50 + 1 * i) 1 = 0 ∧ M (r + 50 + 1 * i) 2 = 0 ∧ M (r + 50 + 1 * i) 3 = 0 ∧ M (r + 50 + 1 * i) 4 = 0 ∧ M (r + 50 + 1 * i) 5 = 0 from by rw [Nat.one_mul]; exact hM.2.2.2.2.2 i (by omega)).2.2.2.2.1 (show M (r + 50 + 1 * i) 0 = -1 ∧ M (r + 50 + 1 * i) 1 = 0 ∧ M (r + 50 + 1 * i) 2 = 0 ∧ M (r + 50 + 1 * i) 3 = 0 ∧ M (r + 50 + 1 * i) 4 = 0 ∧ M (r + 50 + 1 * i) 5 = 0 from by rw [Nat.one_mul]; exact hM.2.2.2.2.2 i (by omega)).2.2.2.2.2 (fun ca B => va_up_self _ _ _)) ⟨va_cnB 0 F.1.2.2.2.2 gX6_init_X3_init_n60 rfl rfl rfl (F.2.2.2.1.1 (RX6, 60, yX3_init, "ShadeCards") (by decide +kernel)) (F.1.2.2.2.2 (.initialized RX3) (by decide +kernel)) (by decide +kernel) ⟨Nat.le_of_ble_eq_true rfl, Nat.le_of_ble_eq_true rfl⟩, rfl, F.1.2.2.2.2 (.instanceMethod yX3_init) (by decide +kernel)⟩ (fun _ _ _ z => z) rfl rfl rfl (Nat.le_of_ble_eq_true rfl) dX6_init_147 ⟨by show 49 + 1 * i + 1 + 0 ≤ 69; omega, by show 1783 + 6 * i + 6 + 0 ≤ 1903; omega⟩ ?_
      refine gc_aastore F (v := r + 50 + 1 * i) (ci := 3) (t0 := 3) (q0 := (RX3, TX3, 6)) (by omega) (by omega) rfl rfl ((fz_out (by omega)).trans ((va_up_ne _ _ (by omega)).trans RC_3)) ((fz_in (by omega)).trans (cel3 (show isR 3 (r + 50 + 1 * i) from by have := el13 (sb6 hr).2.2.1 (show i < 20 by omega); rwa [show r + 3 + 47 + 1 * i = r + 50 + 1 * i by omega] at this))) i rfl (by omega) (by decide) dX6_init_150 ?_
      refine gc_iinc F (lv2 := [(1, _), (0, _)]) dX6_init_151 0 rfl (nI_1 _) (by decide) rfl ?_
      refine gc_goto F 132 dX6_init_154 (by decide) ?_
      refine gc_n (n2 := r + 50 + 1 * (i + 1)) (by omega) ?_
      refine gc_widen (k := 49 + 1 * (i + 1)) (i := 1783 + 6 * (i + 1)) (by show 49 + 1 * i + 1 + 0 ≤ _; omega) (by show 1783 + 6 * i + 6 + 0 ≤ _; omega) ?_
      refine gc_eqv (fun q hq H z => ?_) (ih (i + 1) (by omega))
      by_cases e1 : q = r + 3
      · rw [e1] at z ⊢
        rw [va_up_self] at z; rw [RC_3]
        exact at_q (fun j hj => qn_s rfl) z
      · rw [va_up_ne _ _ e1] at z
        by_cases e2 : r + 50 + 1 * i ≤ q ∧ q < r + 50 + 1 * i + 1
        · rw [fz_in e2] at z
          rw [RC_in (by omega) (by omega) (by omega) (by omega)]; exact z
        · rw [fz_out e2, va_up_ne _ _ (by omega)] at z
          by_cases e3 : q = r + 1
          · rw [e3, RC_1] at z; rw [e3, RC_1]; exact z
          · by_cases e4 : q = r + 2
            · rw [e4, RC_2] at z; rw [e4, RC_2]; exact z
            · by_cases e5 : r ≤ q ∧ q < r + 70
              · rw [RC_in e5 (by omega) (by omega) (by omega)] at z ⊢; exact z
              · rw [RC_out e5] at z ⊢; exact z
  have LO : ∀ (k i : Nat), i + k = 3 → GC p l e rmX6_init s m args below meth c Q D ca B (AB B) 2 (46 + 1 * i) (1768 + 5 * i) (r + 47 + 1 * i) (RC ca B M r (C ca B) 8 i 0) 106 [(1, .int (nI i)), (0, .ref (B + r))] [] := by
    intro k
    induction k with
    | zero =>
      intro i hi
      obtain rfl : i = 3 := by omega
      refine gc_iload_n F dX6_init_106 rfl 0 rfl ?_
      refine gc_iconst F (v := 3) dX6_init_107 (by decide) ?_
      refine gc_icmpN_ge F 130 dX6_init_108 (by decide) 3 3 rfl rfl (by omega) (by omega) (fun _ => ?_) (fun hci => absurd hci (by omega))
      refine gc_iconst F (v := nI 0) dX6_init_130 (by decide) ?_
      refine gc_istore_n F (lv2 := [(1, _), (0, _)]) dX6_init_131 rfl (by decide) rfl ?_
      exact gc_n (by omega) (LN 20 0 (by omega))
    | succ k ih =>
      intro i hi
      refine gc_iload_n F dX6_init_106 rfl 0 rfl ?_
      refine gc_iconst F (v := 3) dX6_init_107 (by decide) ?_
      refine gc_icmpN_ge F 130 dX6_init_108 (by decide) i 3 rfl rfl (by omega) (by omega) (fun hci => absurd hci (by omega)) (fun _ => ?_)
      refine gc_aload_n F dX6_init_111 rfl 1 rfl ?_
      refine gc_get F iX6_init_6 rfl (by omega) (RC_r hr) 1 (by decide) (by decide +kernel) rfl rfl dX6_init_112 ?_
      refine gc_iload_n F dX6_init_115 rfl 0 rfl ?_
      refine gc_new F (ci := 4) (fs := [.int 0, .int 0, .int 0, .int 0, .int 0]) iX6_init_4 tyX4 tyX4_ok rfl (fun j hj => by rcases (show j = 0 ∨ j = 1 ∨ j = 2 ∨ j = 3 ∨ j = 4 by omega) with rfl | rfl | rfl | rfl | rfl <;> rfl) (by decide +kernel) (by decide +kernel) (by decide +kernel) (by show 46 + 1 * i + 1 ≤ 69; omega) (by show 1768 + 5 * i + 5 ≤ 1903; omega) dX6_init_116 ?_
      refine gc_dup F dX6_init_119 rfl ?_
      refine gc_initN F hao (kX4_init l (r := r + 47 + 1 * i) (M := M) (C := fun ca B => va_up (RC ca B M r (C ca B) 8 i 0) (r + 47 + 1 * i) (.inr (4, [.int 0, .int 0, .int 0, .int 0, .int 0]))) (show isR 4 (r + 47 + 1 * i) from by have := el14 (sb6 hr).2.1 (show i < 3 by omega); rwa [show r + 2 + 45 + 1 * i = r + 47 + 1 * i by omega] at this) (show M (r + 47 + 1 * i) 0 = -1 ∧ M (r + 47 + 1 * i) 1 = 0 ∧ M (r + 47 + 1 * i) 2 = 0 ∧ M (r + 47 + 1 * i) 3 = 0 ∧ M (r + 47 + 1 * i) 4 = 0 from by rw [Nat.one_mul]; exact hM.2.2.2.2.1 i (by omega)).1 (show M (r + 47 + 1 * i) 0 = -1 ∧ M (r + 47 + 1 * i) 1 = 0 ∧ M (r + 47 + 1 * i) 2 = 0 ∧ M (r + 47 + 1 * i) 3 = 0 ∧ M (r + 47 + 1 * i) 4 = 0 from by rw [Nat.one_mul]; exact hM.2.2.2.2.1 i (by omega)).2.1 (show M (r + 47 + 1 * i) 0 = -1 ∧ M (r + 47 + 1 * i) 1 = 0 ∧ M (r + 47 + 1 * i) 2 = 0 ∧ M (r + 47 + 1 * i) 3 = 0 ∧ M (r + 47 + 1 * i) 4 = 0 from by rw [Nat.one_mul]; exact hM.2.2.2.2.1 i (by omega)).2.2.1 (show M (r + 47 + 1 * i) 0 = -1 ∧ M (r + 47 + 1 * i) 1 = 0 ∧ M (r + 47 + 1 * i) 2 = 0 ∧ M (r + 47 + 1 * i) 3 = 0 ∧ M (r + 47 + 1 * i) 4 = 0 from by rw [Nat.one_mul]; exact hM.2.2.2.2.1 i (by omega)).2.2.2.1 (show M (r + 47 + 1 * i) 0 = -1 ∧ M (r + 47 + 1 * i) 1 = 0 ∧ M (r + 47 + 1 * i) 2 = 0 ∧ M (r + 47 + 1 * i) 3 = 0 ∧ M (r + 47 + 1 * i) 4 = 0 from by rw [Nat.one_mul]; exact hM.2.2.2.2.1 i (by omega)).2.2.2.2 (fun ca B => va_up_self _ _ _)) ⟨va_cnB 0 F.1.2.2.2.2 gX6_init_X4_init_n59 rfl rfl rfl (F.2.2.2.1.1 (RX6, 59, yX4_init, "ShadeCards") (by decide +kernel)) (F.1.2.2.2.2 (.initialized RX4) (by decide +kernel)) (by decide +kernel) ⟨Nat.le_of_ble_eq_true rfl, Nat.le_of_ble_eq_true rfl⟩, rfl, F.1.2.2.2.2 (.instanceMethod yX4_init) (by decide +kernel)⟩ (fun _ _ _ z => z) rfl rfl rfl (Nat.le_of_ble_eq_true rfl) dX6_init_120 ⟨by show 46 + 1 * i + 1 + 0 ≤ 69; omega, by show 1768 + 5 * i + 5 + 0 ≤ 1903; omega⟩ ?_
      refine gc_aastore F (v := r + 47 + 1 * i) (ci := 4) (t0 := 4) (q0 := (RX4, TX4, 5)) (by omega) (by omega) rfl rfl ((fz_out (by omega)).trans ((va_up_ne _ _ (by omega)).trans RC_2)) ((fz_in (by omega)).trans (cel4 (show isR 4 (r + 47 + 1 * i) from by have := el14 (sb6 hr).2.1 (show i < 3 by omega); rwa [show r + 2 + 45 + 1 * i = r + 47 + 1 * i by omega] at this))) i rfl (by omega) (by decide) dX6_init_123 ?_
      refine gc_iinc F (lv2 := [(1, _), (0, _)]) dX6_init_124 0 rfl (nI_1 _) (by decide) rfl ?_
      refine gc_goto F 106 dX6_init_127 (by decide) ?_
      refine gc_n (n2 := r + 47 + 1 * (i + 1)) (by omega) ?_
      refine gc_widen (k := 46 + 1 * (i + 1)) (i := 1768 + 5 * (i + 1)) (by show 46 + 1 * i + 1 + 0 ≤ _; omega) (by show 1768 + 5 * i + 5 + 0 ≤ _; omega) ?_
      refine gc_eqv (fun q hq H z => ?_) (ih (i + 1) (by omega))
      by_cases e1 : q = r + 2
      · rw [e1] at z ⊢
        rw [va_up_self] at z; rw [RC_2]
        exact at_q (fun j hj => qn_s rfl) z
      · rw [va_up_ne _ _ e1] at z
        by_cases e2 : r + 47 + 1 * i ≤ q ∧ q < r + 47 + 1 * i + 1
        · rw [fz_in e2] at z
          rw [RC_in (by omega) (by omega) (by omega) (by omega)]; exact z
        · rw [fz_out e2, va_up_ne _ _ (by omega)] at z
          by_cases e3 : q = r + 1
          · rw [e3, RC_1] at z; rw [e3, RC_1]; exact z
          · by_cases e4 : q = r + 3
            · rw [e4, RC_3] at z; rw [e4, RC_3]; exact z
            · by_cases e5 : r ≤ q ∧ q < r + 70
              · rw [RC_in e5 (by omega) (by omega) (by omega)] at z ⊢; exact z
              · rw [RC_out e5] at z ⊢; exact z
  have LC : ∀ (k i : Nat), i + k = 8 → GC p l e rmX6_init s m args below meth c Q D ca B (AB B) 2 (6 + 5 * i) (152 + 202 * i) (r + 7 + 5 * i) (RC ca B M r (C ca B) i 0 0) 76 [(1, .int (nI i)), (0, .ref (B + r))] [] := by
    intro k
    induction k with
    | zero =>
      intro i hi
      obtain rfl : i = 8 := by omega
      refine gc_iload_n F dX6_init_76 rfl 0 rfl ?_
      refine gc_bipush F (v := 8) dX6_init_77 (by decide) ?_
      refine gc_icmpN_ge F 104 dX6_init_79 (by decide) 8 8 rfl rfl (by omega) (by omega) (fun _ => ?_) (fun hci => absurd hci (by omega))
      refine gc_iconst F (v := nI 0) dX6_init_104 (by decide) ?_
      refine gc_istore_n F (lv2 := [(1, _), (0, _)]) dX6_init_105 rfl (by decide) rfl ?_
      exact gc_n (by omega) (LO 3 0 (by omega))
    | succ k ih =>
      intro i hi
      refine gc_iload_n F dX6_init_76 rfl 0 rfl ?_
      refine gc_bipush F (v := 8) dX6_init_77 (by decide) ?_
      refine gc_icmpN_ge F 104 dX6_init_79 (by decide) i 8 rfl rfl (by omega) (by omega) (fun hci => absurd hci (by omega)) (fun _ => ?_)
      refine gc_aload_n F dX6_init_82 rfl 1 rfl ?_
      refine gc_get F iX6_init_6 rfl (by omega) (RC_r hr) 0 (by decide) (by decide +kernel) rfl rfl dX6_init_83 ?_
      refine gc_iload_n F dX6_init_86 rfl 0 rfl ?_
      refine gc_new F (ci := 0) (fs := [.int 0, .int 0, .int 0, .int 0, .int 0, .int 0, .null, .null]) iX6_init_0 tyX0 tyX0_ok rfl (fun j hj => by rcases (show j = 0 ∨ j = 1 ∨ j = 2 ∨ j = 3 ∨ j = 4 ∨ j = 5 ∨ j = 6 ∨ j = 7 by omega) with rfl | rfl | rfl | rfl | rfl | rfl | rfl | rfl <;> rfl) (by decide +kernel) (by decide +kernel) (by decide +kernel) (by show 6 + 5 * i + 1 ≤ 69; omega) (by show 152 + 202 * i + 8 ≤ 1903; omega) dX6_init_87 ?_
      refine gc_dup F dX6_init_90 rfl ?_
      refine gc_iload_n F dX6_init_91 rfl 0 rfl ?_
      refine gc_iconst F (v := 4) dX6_init_92 (by decide) ?_
      refine gc_irem F dX6_init_93 (by decide) ?_
      refine gc_init F hao (kX0_init l (r := r + 7 + 5 * i) (M := M) (C := fun ca B => va_up (RC ca B M r (C ca B) i 0 0) (r + 7 + 5 * i) (.inr (0, [.int 0, .int 0, .int 0, .int 0, .int 0, .int 0, .null, .null]))) (b := nI i - nI i / 4 * 4) (show isR 0 (r + 7 + 5 * i) from by have := el12 (sb6 hr).1 (show i < 8 by omega); rwa [show r + 1 + 6 + 5 * i = r + 7 + 5 * i by omega] at this) (hM.2.2.2.1 i (by omega)).1.1 (hM.2.2.2.1 i (by omega)).1.2.1 (hM.2.2.2.1 i (by omega)).1.2.2.1 (hM.2.2.2.1 i (by omega)).1.2.2.2.1 (hM.2.2.2.1 i (by omega)).1.2.2.2.2.1 (hM.2.2.2.1 i (by omega)).1.2.2.2.2.2 (hM.2.2.2.1 i (by omega)).2.1 (hM.2.2.2.1 i (by omega)).2.2 (fun ca B => va_up_self _ _ _)) (cwI 1 F.1.2.2.2.2 gX6_init_X0_init rfl rfl rfl (F.1.2.2.2.2 (.initialized RX0) (by decide +kernel)) (F.1.2.2.2.2 (.methodLink RX6 56 yX0_init) (by decide +kernel)) (F.1.2.2.2.2 (.instanceMethod yX0_init) (by decide +kernel)) rfl (by decide +kernel) ⟨Nat.le_of_ble_eq_true rfl, Nat.le_of_ble_eq_true rfl⟩) (fun _ _ _ z => z) rfl rfl rfl (Nat.le_of_ble_eq_true rfl) dX6_init_94 ⟨by show 6 + 5 * i + 1 + 4 ≤ 69; omega, by show 152 + 202 * i + 8 + 194 ≤ 1903; omega⟩ ?_
      refine gc_aastore F (v := r + 7 + 5 * i) (ci := 0) (t0 := 2) (q0 := (RX0, TX0, 8)) (by omega) (by omega) rfl rfl ((fz_out (by omega)).trans ((va_up_ne _ _ (by omega)).trans RC_1)) ((fz_in (by omega)).trans (cel0 (show isR 0 (r + 7 + 5 * i) from by have := el12 (sb6 hr).1 (show i < 8 by omega); rwa [show r + 1 + 6 + 5 * i = r + 7 + 5 * i by omega] at this))) i rfl (by omega) (by decide) dX6_init_97 ?_
      refine gc_iinc F (lv2 := [(1, _), (0, _)]) dX6_init_98 0 rfl (nI_1 _) (by decide) rfl ?_
      refine gc_goto F 76 dX6_init_101 (by decide) ?_
      refine gc_n (n2 := r + 7 + 5 * (i + 1)) (by omega) ?_
      refine gc_widen (k := 6 + 5 * (i + 1)) (i := 152 + 202 * (i + 1)) (by show 6 + 5 * i + 1 + 4 ≤ _; omega) (by show 152 + 202 * i + 8 + 194 ≤ _; omega) ?_
      refine gc_eqv (fun q hq H z => ?_) (ih (i + 1) (by omega))
      by_cases e1 : q = r + 1
      · rw [e1] at z ⊢
        rw [va_up_self] at z; rw [RC_1]
        exact at_q (fun j hj => qn_s rfl) z
      · rw [va_up_ne _ _ e1] at z
        by_cases e2 : r + 7 + 5 * i ≤ q ∧ q < r + 7 + 5 * i + 5
        · rw [fz_in e2] at z
          rw [RC_in (by omega) (by omega) (by omega) (by omega)]; exact z
        · rw [fz_out e2, va_up_ne _ _ (by omega)] at z
          by_cases e3 : q = r + 2
          · rw [e3, RC_2] at z; rw [e3, RC_2]; exact z
          · by_cases e4 : q = r + 3
            · rw [e4, RC_3] at z; rw [e4, RC_3]; exact z
            · by_cases e5 : r ≤ q ∧ q < r + 70
              · rw [RC_in e5 (by omega) (by omega) (by omega)] at z ⊢; exact z
              · rw [RC_out e5] at z ⊢; exact z
  refine gc_iconst F (v := nI 0) dX6_init_74 (by decide) ?_
  refine gc_istore_n F (lv2 := [(1, _), (0, _)]) dX6_init_75 rfl (by decide) rfl ?_
  refine gc_n (n2 := r + 7 + 5 * 0) (by omega) ?_
  refine gc_eqv (fun q hq H z => ?_) (LC 8 0 (by omega))
  by_cases e1 : q = r + 1
  · rw [e1] at z ⊢
    replace z : va_at D vwCl (B + (r + 1), _) H := (show (fz ca B M (r + 5) 2 (va_up (va_up (va_up (va_up (va_up (C ca B) (r) (.inr (6, [.ref (B + (r + 1)), .ref (B + (r + 2)), .ref (B + (r + 3)), .ref (B + (r + 4)), .ref (B + (r + 5)), .int 0, .int 3, .int 3, .int 0, .int 0]))) (r + 1) (.inl (ca 12, 8, .inr (.inr (.inr (.inr (fun _ => none))))))) (r + 2) (.inl (ca 14, 3, .inr (.inr (.inr (.inr (fun _ => none))))))) (r + 3) (.inl (ca 13, 20, .inr (.inr (.inr (.inr (fun _ => none))))))) (r + 4) (.inl (ca 11, 24, .inl (fun _ => 0))))) (r + 1) = _ from (fz_out (by omega)).trans ((va_up_ne _ _ (by omega)).trans ((va_up_ne _ _ (by omega)).trans ((va_up_ne _ _ (by omega)).trans (va_up_self _ _ _))))) ▸ z
    rw [RC_1]; exact at_q (fun j hj => (if_neg (by omega)).symm) z
  by_cases e2 : q = r + 2
  · rw [e2] at z ⊢
    replace z : va_at D vwCl (B + (r + 2), _) H := (show (fz ca B M (r + 5) 2 (va_up (va_up (va_up (va_up (va_up (C ca B) (r) (.inr (6, [.ref (B + (r + 1)), .ref (B + (r + 2)), .ref (B + (r + 3)), .ref (B + (r + 4)), .ref (B + (r + 5)), .int 0, .int 3, .int 3, .int 0, .int 0]))) (r + 1) (.inl (ca 12, 8, .inr (.inr (.inr (.inr (fun _ => none))))))) (r + 2) (.inl (ca 14, 3, .inr (.inr (.inr (.inr (fun _ => none))))))) (r + 3) (.inl (ca 13, 20, .inr (.inr (.inr (.inr (fun _ => none))))))) (r + 4) (.inl (ca 11, 24, .inl (fun _ => 0))))) (r + 2) = _ from (fz_out (by omega)).trans ((va_up_ne _ _ (by omega)).trans ((va_up_ne _ _ (by omega)).trans (va_up_self _ _ _)))) ▸ z
    rw [RC_2]; exact at_q (fun j hj => (if_neg (by omega)).symm) z
  by_cases e3 : q = r + 3
  · rw [e3] at z ⊢
    replace z : va_at D vwCl (B + (r + 3), _) H := (show (fz ca B M (r + 5) 2 (va_up (va_up (va_up (va_up (va_up (C ca B) (r) (.inr (6, [.ref (B + (r + 1)), .ref (B + (r + 2)), .ref (B + (r + 3)), .ref (B + (r + 4)), .ref (B + (r + 5)), .int 0, .int 3, .int 3, .int 0, .int 0]))) (r + 1) (.inl (ca 12, 8, .inr (.inr (.inr (.inr (fun _ => none))))))) (r + 2) (.inl (ca 14, 3, .inr (.inr (.inr (.inr (fun _ => none))))))) (r + 3) (.inl (ca 13, 20, .inr (.inr (.inr (.inr (fun _ => none))))))) (r + 4) (.inl (ca 11, 24, .inl (fun _ => 0))))) (r + 3) = _ from (fz_out (by omega)).trans ((va_up_ne _ _ (by omega)).trans (va_up_self _ _ _))) ▸ z
    rw [RC_3]; exact at_q (fun j hj => (if_neg (by omega)).symm) z
  by_cases e5 : r ≤ q ∧ q < r + 70
  · rw [RC_in e5 e1 e2 e3]
    by_cases e0 : q = r
    · rw [e0] at z ⊢
      replace z : va_at D vwCl (B + (r), _) H := (show (fz ca B M (r + 5) 2 (va_up (va_up (va_up (va_up (va_up (C ca B) (r) (.inr (6, [.ref (B + (r + 1)), .ref (B + (r + 2)), .ref (B + (r + 3)), .ref (B + (r + 4)), .ref (B + (r + 5)), .int 0, .int 3, .int 3, .int 0, .int 0]))) (r + 1) (.inl (ca 12, 8, .inr (.inr (.inr (.inr (fun _ => none))))))) (r + 2) (.inl (ca 14, 3, .inr (.inr (.inr (.inr (fun _ => none))))))) (r + 3) (.inl (ca 13, 20, .inr (.inr (.inr (.inr (fun _ => none))))))) (r + 4) (.inl (ca 11, 24, .inl (fun _ => 0))))) (r) = _ from (fz_out (by omega)).trans ((va_up_ne _ _ (by omega)).trans ((va_up_ne _ _ (by omega)).trans ((va_up_ne _ _ (by omega)).trans ((va_up_ne _ _ (by omega)).trans (va_up_self _ _ _)))))) ▸ z
      rw [cel6 hr, fs6, hM.1.1, hM.1.2.1, hM.1.2.2.1, hM.1.2.2.2.1, hM.1.2.2.2.2]; exact z
    by_cases e4 : q = r + 4
    · rw [e4] at z ⊢
      replace z : va_at D vwCl (B + (r + 4), _) H := (show (fz ca B M (r + 5) 2 (va_up (va_up (va_up (va_up (va_up (C ca B) (r) (.inr (6, [.ref (B + (r + 1)), .ref (B + (r + 2)), .ref (B + (r + 3)), .ref (B + (r + 4)), .ref (B + (r + 5)), .int 0, .int 3, .int 3, .int 0, .int 0]))) (r + 1) (.inl (ca 12, 8, .inr (.inr (.inr (.inr (fun _ => none))))))) (r + 2) (.inl (ca 14, 3, .inr (.inr (.inr (.inr (fun _ => none))))))) (r + 3) (.inl (ca 13, 20, .inr (.inr (.inr (.inr (fun _ => none))))))) (r + 4) (.inl (ca 11, 24, .inl (fun _ => 0))))) (r + 4) = _ from (fz_out (by omega)).trans (va_up_self _ _ _)) ▸ z
      rw [cel11 (sb6 hr).2.2.2.1]; exact at_i (fun j hj => (hM.2.1 j hj).symm) z
    exact (show (fz ca B M (r + 5) 2 (va_up (va_up (va_up (va_up (va_up (C ca B) (r) (.inr (6, [.ref (B + (r + 1)), .ref (B + (r + 2)), .ref (B + (r + 3)), .ref (B + (r + 4)), .ref (B + (r + 5)), .int 0, .int 3, .int 3, .int 0, .int 0]))) (r + 1) (.inl (ca 12, 8, .inr (.inr (.inr (.inr (fun _ => none))))))) (r + 2) (.inl (ca 14, 3, .inr (.inr (.inr (.inr (fun _ => none))))))) (r + 3) (.inl (ca 13, 20, .inr (.inr (.inr (.inr (fun _ => none))))))) (r + 4) (.inl (ca 11, 24, .inl (fun _ => 0))))) q = cel ca B M q from fz_in (by omega)) ▸ z
  · rw [RC_out e5]; exact (show (fz ca B M (r + 5) 2 (va_up (va_up (va_up (va_up (va_up (C ca B) (r) (.inr (6, [.ref (B + (r + 1)), .ref (B + (r + 2)), .ref (B + (r + 3)), .ref (B + (r + 4)), .ref (B + (r + 5)), .int 0, .int 3, .int 3, .int 0, .int 0]))) (r + 1) (.inl (ca 12, 8, .inr (.inr (.inr (.inr (fun _ => none))))))) (r + 2) (.inl (ca 14, 3, .inr (.inr (.inr (.inr (fun _ => none))))))) (r + 3) (.inl (ca 13, 20, .inr (.inr (.inr (.inr (fun _ => none))))))) (r + 4) (.inl (ca 11, 24, .inl (fun _ => 0))))) q = C ca B q from (fz_out (by omega)).trans ((va_up_ne _ _ (by omega)).trans ((va_up_ne _ _ (by omega)).trans ((va_up_ne _ _ (by omega)).trans ((va_up_ne _ _ (by omega)).trans ((va_up_ne _ _ (by omega)).trans (rfl))))))) ▸ z
