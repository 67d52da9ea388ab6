section TOG
variable {p : Program} {l : Launch} {e : Env} {R : Room} {s : State} {m : MethodId} {args : Array Value} {below : List Frame} {meth : Method} {c : Code} {Q : State → Prop} {D : va_G} {ca : Nat → ClassId} {B : Nat} {nL cells slots n : Nat} {C : CE} {pc : Nat} {lv : List (Nat × Value)} {st : List Value} {cc : ByteArray} {Ts : List Cond} {own : String} {M : Mm}
theorem wld_C : wld ca B M [] = wlC B 717 (cel ca B M) := by simp [wld, wlC]
/-- all places are there: the whole memory -/
theorem GC_G (hT : Ty M) (h : ∀ q, q < 717 → ∀ H, va_at D vwCl (B + q, C q) H → va_at D vwCl (B + q, cel ca B M q) H) (k : G p l e R s m args below meth c Q D ca B ([] : va_W) (AB B) nL cells slots M pc lv st) : GC p l e R s m args below meth c Q D ca B (AB B) nL cells slots 717 C pc lv st := fun H locs ls w9 h9 hl9 =>
  k H locs ls ⟨by rw [wld_C]; exact Wc.P (C := cel ca B M) ⟨fun r hr => h r hr H (w9.1 r hr), w9.2⟩, by rw [wld_C]; exact wlC_D, hT⟩ h9 hl9
/-- the same contract, its end told over the whole memory -/
theorem Cn.ofG {y : MethodName} {ws : List Cond} {rm : Room} {av : Nat → List Value} {C1 : (Nat → ClassId) → Nat → CE} {FM : Mm} {maxL : Nat} {ws' : List Cond} (hn : n + rm.cells = 717) (hy : plainName y.cls = true) (hw : ws = Cond.code y cc maxL none :: ws') (ho : y.cls = own) (hav : ∀ B, (lg_sl (av B)).length ≤ maxL)
    (body : ∀ (p : Program) (e : Env) (s : State) (m : MethodId) (args : Array Value) (below : List Frame) (meth : Method) (c : Code) (D : va_G) (ca : Nat → ClassId) (B : Nat) (Q : State → Prop), meth.name = y.name → (∀ X ∈ aoL, va_AO X s) → Fx p rm s m args meth c cc maxL ws own D ca (AB B) →
      (∀ (M9 : Mm) (pc : Nat) (lv : List (Nat × Value)), decode cc pc = .ok (.return_, 1) → M9 = FM → G p l e rm s m args below meth c Q D ca B ([] : va_W) (AB B) maxL rm.cells rm.slots M9 pc lv []) →
      GC p l e rm s m args below meth c Q D ca B (AB B) maxL 0 0 n (C1 ca B) 0 (lv_args 0 (av B)) []) : Cn l y ws rm av n 717 C1 (fun ca B => cel ca B FM) := by
  intro D ca B
  refine Met.ofW (cc := cc) (maxL := maxL) (ret := none) hy hw ?_
  intro p e s m args below meth c s₁ BL hml hv
  obtain ⟨rfl, hP, hK, hE, hao⟩ := hv
  have hts := atoms_spec (ws := ws) BL.pre
  have hown : s.vm.findClass own = some m.cls := ho ▸ findClass_of_methodNamed BL.named
  have hl := lv_entry (av B) (n := maxL) (hav B)
  rw [lg_entry_eq]
  refine body p e s m _ below meth c D ca B _ (name_of_methodNamed BL.named BL.method).1 hao ⟨⟨BL.exec, BL.bytes, hml, hown, hts⟩, hK, fun q h => by rw [hP.2] at h; show B ≤ q; omega, hE, BL.notSynchronized⟩ ?_ s.heap [] _ hP va_S.rf hl
  rintro M9 pc lv hd rfl H locs ls w9 h9 hl9 T hT X
  have u1 : T.heap.size ≤ s.heap.size + rm.cells := X.same.2.2.1
  have u2 : B + 716 < H.size := (w9.1 716 _ (wld_at (by decide))).lt
  rw [hT, hP.2] at u1
  have w8 : Wc D B 717 (cel ca B M9) H := Wc.of (by rw [← wld_C]; exact w9.1) (by omega)
  exact W.vret BL.exec BL.bytes BL.returns (fun t ht hW => ⟨⟨rfl, by rw [ht]; exact w8⟩, h9.F ht⟩) h9.2.2 hd BL.notSynchronized T hT X
end TOG
/-- the state's row after i chimneys; after i observers -/
def iaR (f : Nat → Int32) : Nat → Nat → Int32
  | 0 => f
  | i + 1 => upd (upd (upd (iaR f i) (0 + i) 3) (16 + i) 4) (24 + i) (nI (i % 4))
def ibR (f : Nat → Int32) : Nat → Nat → Int32
  | 0 => f
  | i + 1 => upd (ibR f i) (62 + i) (-1)
def iFM (M : Mm) : Mm := va_up M 710 (fgR (upd (upd (ibR (iaR (M 710) 8) 3) 71 3) 72 3) 768)

abbrev rmX9_init : Room := { frames := 1, cells := 7, slots := 18110, locals := 21 }
theorem iX9_init_9 : ∀ w ∈ u_ws RX9 TX9 15, w ∈ wsX9_init := by decide +kernel
set_option maxHeartbeats 4000000 in
set_option maxRecDepth 100000 in
theorem kX9_init (l : Launch) {M : Mm} {C : (Nat → ClassId) → Nat → CE} (hT : Ty M) (hM : M 709 0 = 0 ∧ M 709 3 = 0 ∧ M 709 8 = 0 ∧ M 709 9 = 0 ∧ M 709 10 = 0 ∧ M 709 11 = 0 ∧ M 709 12 = 0 ∧ M 709 13 = 0) (hA : ∀ q, 710 ≤ q → q < 717 → ∀ j, M q j = 0) (hC : ∀ ca B, C ca B 709 = .inr (9, [.int 0, .null, .null, .int 0, .null, .null, .null, .null, .int 0, .int 0, .int 0, .int 0, .int 0, .int 0, .null])) (hL : ∀ ca B q, q < 709 → C ca B q = cel ca B M q) : Cn l yX9_init wsX9_init rmX9_init (fun B => [.ref (B + 709)]) 710 717 C (fun ca B => cel ca B (iFM M)) := by
  refine Cn.ofG (own := RX9) (by decide) (by decide +kernel) rfl rfl (fun B => Nat.le_of_ble_eq_true rfl) ?_
  intro pp ee ss mm aa bb me c9 DD ca B QQ hnm hao F K
  show GC pp l ee rmX9_init ss mm aa bb me c9 QQ DD ca B (AB B) 2 0 0 710 (C ca B) 0 [(0, .ref (B + 709))] []
  refine gc_aload_n F dX9_init_0 rfl 0 rfl ?_
  refine gc_obj F (by decide +kernel) (by decide +kernel) (by decide +kernel) dX9_init_1 (Nat.le_of_ble_eq_true rfl) (Nat.le_of_ble_eq_true rfl) ?_
  refine gc_aload_n F dX9_init_4 rfl 0 rfl ?_
  refine gc_sipush F (v := 1804) dX9_init_5 (by decide) ?_
  refine gc_newa F 1 rfl rfl rfl rfl (by decide +kernel) 1804 rfl (by decide) (by decide) (Nat.le_of_ble_eq_true rfl) (Nat.le_of_ble_eq_true rfl) dX9_init_8 ?_
  refine gc_put (ty := .array .int) F hnm iX9_init_9 tyX9 tyX9_ok nmX9 rfl (by omega) ((va_up_ne _ _ (by omega)).trans ((hC ca B))) 1 (by decide) (by decide +kernel) rfl rfl (by decide +kernel) rfl rfl (Nat.le_of_ble_eq_true rfl) dX9_init_10 ?_
  refine gc_eq (C2 := va_up (va_up (C ca B) (709) (.inr (9, [.int 0, .ref (B + (709 + 1)), .null, .int 0, .null, .null, .null, .null, .int 0, .int 0, .int 0, .int 0, .int 0, .int 0, .null]))) (709 + 1) (.inl (ca 11, 1804, .inl (fun _ => 0)))) (fun q _ => by simp only [va_up, fz]; (repeat' split) <;> first | rfl | omega) ?_
  refine gc_aload_n F dX9_init_13 rfl 0 rfl ?_
  refine gc_sipush F (v := 10824) dX9_init_14 (by decide) ?_
  refine gc_newa F 1 rfl rfl rfl rfl (by decide +kernel) 10824 rfl (by decide) (by decide) (Nat.le_of_ble_eq_true rfl) (Nat.le_of_ble_eq_true rfl) dX9_init_17 ?_
  refine gc_put (ty := .array .int) F hnm iX9_init_9 tyX9 tyX9_ok nmX9 rfl (by omega) ((va_up_ne _ _ (by omega)).trans ((va_up_ne _ _ (by omega)).trans (va_up_self _ _ _))) 2 (by decide) (by decide +kernel) rfl rfl (by decide +kernel) rfl rfl (Nat.le_of_ble_eq_true rfl) dX9_init_19 ?_
  refine gc_eq (C2 := va_up (va_up (va_up (C ca B) (709) (.inr (9, [.int 0, .ref (B + (709 + 1)), .ref (B + (709 + 2)), .int 0, .null, .null, .null, .null, .int 0, .int 0, .int 0, .int 0, .int 0, .int 0, .null]))) (709 + 1) (.inl (ca 11, 1804, .inl (fun _ => 0)))) (709 + 2) (.inl (ca 11, 10824, .inl (fun _ => 0)))) (fun q _ => by simp only [va_up, fz]; (repeat' split) <;> first | rfl | omega) ?_
  refine gc_aload_n F dX9_init_22 rfl 0 rfl ?_
  refine gc_sipush F (v := 3608) dX9_init_23 (by decide) ?_
  refine gc_newa F 1 rfl rfl rfl rfl (by decide +kernel) 3608 rfl (by decide) (by decide) (Nat.le_of_ble_eq_true rfl) (Nat.le_of_ble_eq_true rfl) dX9_init_26 ?_
  refine gc_put (ty := .array .int) F hnm iX9_init_9 tyX9 tyX9_ok nmX9 rfl (by omega) ((va_up_ne _ _ (by omega)).trans ((va_up_ne _ _ (by omega)).trans ((va_up_ne _ _ (by omega)).trans (va_up_self _ _ _)))) 4 (by decide) (by decide +kernel) rfl rfl (by decide +kernel) rfl rfl (Nat.le_of_ble_eq_true rfl) dX9_init_28 ?_
  refine gc_eq (C2 := va_up (va_up (va_up (va_up (C ca B) (709) (.inr (9, [.int 0, .ref (B + (709 + 1)), .ref (B + (709 + 2)), .int 0, .ref (B + (709 + 3)), .null, .null, .null, .int 0, .int 0, .int 0, .int 0, .int 0, .int 0, .null]))) (709 + 1) (.inl (ca 11, 1804, .inl (fun _ => 0)))) (709 + 2) (.inl (ca 11, 10824, .inl (fun _ => 0)))) (709 + 3) (.inl (ca 11, 3608, .inl (fun _ => 0)))) (fun q _ => by simp only [va_up, fz]; (repeat' split) <;> first | rfl | omega) ?_
  refine gc_aload_n F dX9_init_31 rfl 0 rfl ?_
  refine gc_iconst F (v := 2) dX9_init_32 (by decide) ?_
  refine gc_newa F 1 rfl rfl rfl rfl (by decide +kernel) 2 rfl (by decide) (by decide) (Nat.le_of_ble_eq_true rfl) (Nat.le_of_ble_eq_true rfl) dX9_init_33 ?_
  refine gc_put (ty := .array .int) F hnm iX9_init_9 tyX9 tyX9_ok nmX9 rfl (by omega) ((va_up_ne _ _ (by omega)).trans ((va_up_ne _ _ (by omega)).trans ((va_up_ne _ _ (by omega)).trans ((va_up_ne _ _ (by omega)).trans (va_up_self _ _ _))))) 5 (by decide) (by decide +kernel) rfl rfl (by decide +kernel) rfl rfl (Nat.le_of_ble_eq_true rfl) dX9_init_35 ?_
  refine gc_eq (C2 := va_up (va_up (va_up (va_up (va_up (C ca B) (709) (.inr (9, [.int 0, .ref (B + (709 + 1)), .ref (B + (709 + 2)), .int 0, .ref (B + (709 + 3)), .ref (B + (709 + 4)), .null, .null, .int 0, .int 0, .int 0, .int 0, .int 0, .int 0, .null]))) (709 + 1) (.inl (ca 11, 1804, .inl (fun _ => 0)))) (709 + 2) (.inl (ca 11, 10824, .inl (fun _ => 0)))) (709 + 3) (.inl (ca 11, 3608, .inl (fun _ => 0)))) (709 + 4) (.inl (ca 11, 2, .inl (fun _ => 0)))) (fun q _ => by simp only [va_up, fz]; (repeat' split) <;> first | rfl | omega) ?_
  refine gc_aload_n F dX9_init_38 rfl 0 rfl ?_
  refine gc_sipush F (v := 1804) dX9_init_39 (by decide) ?_
  refine gc_newa F 1 rfl rfl rfl rfl (by decide +kernel) 1804 rfl (by decide) (by decide) (Nat.le_of_ble_eq_true rfl) (Nat.le_of_ble_eq_true rfl) dX9_init_42 ?_
  refine gc_put (ty := .array .int) F hnm iX9_init_9 tyX9 tyX9_ok nmX9 rfl (by omega) ((va_up_ne _ _ (by omega)).trans ((va_up_ne _ _ (by omega)).trans ((va_up_ne _ _ (by omega)).trans ((va_up_ne _ _ (by omega)).trans ((va_up_ne _ _ (by omega)).trans (va_up_self _ _ _)))))) 6 (by decide) (by decide +kernel) rfl rfl (by decide +kernel) rfl rfl (Nat.le_of_ble_eq_true rfl) dX9_init_44 ?_
  refine gc_eq (C2 := va_up (va_up (va_up (va_up (va_up (va_up (C ca B) (709) (.inr (9, [.int 0, .ref (B + (709 + 1)), .ref (B + (709 + 2)), .int 0, .ref (B + (709 + 3)), .ref (B + (709 + 4)), .ref (B + (709 + 5)), .null, .int 0, .int 0, .int 0, .int 0, .int 0, .int 0, .null]))) (709 + 1) (.inl (ca 11, 1804, .inl (fun _ => 0)))) (709 + 2) (.inl (ca 11, 10824, .inl (fun _ => 0)))) (709 + 3) (.inl (ca 11, 3608, .inl (fun _ => 0)))) (709 + 4) (.inl (ca 11, 2, .inl (fun _ => 0)))) (709 + 5) (.inl (ca 11, 1804, .inl (fun _ => 0)))) (fun q _ => by simp only [va_up, fz]; (repeat' split) <;> first | rfl | omega) ?_
  refine gc_aload_n F dX9_init_47 rfl 0 rfl ?_
  refine gc_bipush F (v := 60) dX9_init_48 (by decide) ?_
  refine gc_newa F 1 rfl rfl rfl rfl (by decide +kernel) 60 rfl (by decide) (by decide) (Nat.le_of_ble_eq_true rfl) (Nat.le_of_ble_eq_true rfl) dX9_init_50 ?_
  refine gc_put (ty := .array .int) F hnm iX9_init_9 tyX9 tyX9_ok nmX9 rfl (by omega) ((va_up_ne _ _ (by omega)).trans ((va_up_ne _ _ (by omega)).trans ((va_up_ne _ _ (by omega)).trans ((va_up_ne _ _ (by omega)).trans ((va_up_ne _ _ (by omega)).trans ((va_up_ne _ _ (by omega)).trans (va_up_self _ _ _))))))) 7 (by decide) (by decide +kernel) rfl rfl (by decide +kernel) rfl rfl (Nat.le_of_ble_eq_true rfl) dX9_init_52 ?_
  refine gc_eq (C2 := va_up (va_up (va_up (va_up (va_up (va_up (va_up (C ca B) (709) (.inr (9, [.int 0, .ref (B + (709 + 1)), .ref (B + (709 + 2)), .int 0, .ref (B + (709 + 3)), .ref (B + (709 + 4)), .ref (B + (709 + 5)), .ref (B + (709 + 6)), .int 0, .int 0, .int 0, .int 0, .int 0, .int 0, .null]))) (709 + 1) (.inl (ca 11, 1804, .inl (fun _ => 0)))) (709 + 2) (.inl (ca 11, 10824, .inl (fun _ => 0)))) (709 + 3) (.inl (ca 11, 3608, .inl (fun _ => 0)))) (709 + 4) (.inl (ca 11, 2, .inl (fun _ => 0)))) (709 + 5) (.inl (ca 11, 1804, .inl (fun _ => 0)))) (709 + 6) (.inl (ca 11, 60, .inl (fun _ => 0)))) (fun q _ => by simp only [va_up, fz]; (repeat' split) <;> first | rfl | omega) ?_
  refine gc_aload_n F dX9_init_55 rfl 0 rfl ?_
  refine gc_bipush F (v := 8) dX9_init_56 (by decide) ?_
  refine gc_newa F 1 rfl rfl rfl rfl (by decide +kernel) 8 rfl (by decide) (by decide) (Nat.le_of_ble_eq_true rfl) (Nat.le_of_ble_eq_true rfl) dX9_init_58 ?_
  refine gc_put (ty := .array .int) F hnm iX9_init_9 tyX9 tyX9_ok nmX9 rfl (by omega) ((va_up_ne _ _ (by omega)).trans ((va_up_ne _ _ (by omega)).trans ((va_up_ne _ _ (by omega)).trans ((va_up_ne _ _ (by omega)).trans ((va_up_ne _ _ (by omega)).trans ((va_up_ne _ _ (by omega)).trans ((va_up_ne _ _ (by omega)).trans (va_up_self _ _ _)))))))) 14 (by decide) (by decide +kernel) rfl rfl (by decide +kernel) rfl rfl (Nat.le_of_ble_eq_true rfl) dX9_init_60 ?_
  refine gc_eq (C2 := va_up (va_up (va_up (va_up (va_up (va_up (va_up (va_up (C ca B) (709) (.inr (9, [.int 0, .ref (B + (709 + 1)), .ref (B + (709 + 2)), .int 0, .ref (B + (709 + 3)), .ref (B + (709 + 4)), .ref (B + (709 + 5)), .ref (B + (709 + 6)), .int 0, .int 0, .int 0, .int 0, .int 0, .int 0, .ref (B + (709 + 7))]))) (709 + 1) (.inl (ca 11, 1804, .inl (fun _ => 0)))) (709 + 2) (.inl (ca 11, 10824, .inl (fun _ => 0)))) (709 + 3) (.inl (ca 11, 3608, .inl (fun _ => 0)))) (709 + 4) (.inl (ca 11, 2, .inl (fun _ => 0)))) (709 + 5) (.inl (ca 11, 1804, .inl (fun _ => 0)))) (709 + 6) (.inl (ca 11, 60, .inl (fun _ => 0)))) (709 + 7) (.inl (ca 11, 8, .inl (fun _ => 0)))) (fun q _ => by simp only [va_up, fz]; (repeat' split) <;> first | rfl | omega) ?_
  refine GC_G (M := M) hT (fun q hq H z => ?_) ?_
  · by_cases h : q < 709
    · exact (show (va_up (va_up (va_up (va_up (va_up (va_up (va_up (va_up (C ca B) (709) (.inr (9, [.int 0, .ref (B + (709 + 1)), .ref (B + (709 + 2)), .int 0, .ref (B + (709 + 3)), .ref (B + (709 + 4)), .ref (B + (709 + 5)), .ref (B + (709 + 6)), .int 0, .int 0, .int 0, .int 0, .int 0, .int 0, .ref (B + (709 + 7))]))) (709 + 1) (.inl (ca 11, 1804, .inl (fun _ => 0)))) (709 + 2) (.inl (ca 11, 10824, .inl (fun _ => 0)))) (709 + 3) (.inl (ca 11, 3608, .inl (fun _ => 0)))) (709 + 4) (.inl (ca 11, 2, .inl (fun _ => 0)))) (709 + 5) (.inl (ca 11, 1804, .inl (fun _ => 0)))) (709 + 6) (.inl (ca 11, 60, .inl (fun _ => 0)))) (709 + 7) (.inl (ca 11, 8, .inl (fun _ => 0)))) q = cel ca B M q from (va_up_ne _ _ (by omega)).trans ((va_up_ne _ _ (by omega)).trans ((va_up_ne _ _ (by omega)).trans ((va_up_ne _ _ (by omega)).trans ((va_up_ne _ _ (by omega)).trans ((va_up_ne _ _ (by omega)).trans ((va_up_ne _ _ (by omega)).trans ((va_up_ne _ _ (by omega)).trans (hL ca B q h))))))))) ▸ z
    · rcases (show q = 709 ∨ q = 710 ∨ q = 711 ∨ q = 712 ∨ q = 713 ∨ q = 714 ∨ q = 715 ∨ q = 716 by omega) with e1 | e1 | e1 | e1 | e1 | e1 | e1 | e1
      · rw [e1] at z ⊢
        replace z : va_at DD vwCl (B + (709), _) H := (show (va_up (va_up (va_up (va_up (va_up (va_up (va_up (va_up (C ca B) (709) (.inr (9, [.int 0, .ref (B + (709 + 1)), .ref (B + (709 + 2)), .int 0, .ref (B + (709 + 3)), .ref (B + (709 + 4)), .ref (B + (709 + 5)), .ref (B + (709 + 6)), .int 0, .int 0, .int 0, .int 0, .int 0, .int 0, .ref (B + (709 + 7))]))) (709 + 1) (.inl (ca 11, 1804, .inl (fun _ => 0)))) (709 + 2) (.inl (ca 11, 10824, .inl (fun _ => 0)))) (709 + 3) (.inl (ca 11, 3608, .inl (fun _ => 0)))) (709 + 4) (.inl (ca 11, 2, .inl (fun _ => 0)))) (709 + 5) (.inl (ca 11, 1804, .inl (fun _ => 0)))) (709 + 6) (.inl (ca 11, 60, .inl (fun _ => 0)))) (709 + 7) (.inl (ca 11, 8, .inl (fun _ => 0)))) (709) = _ from (va_up_ne _ _ (by omega)).trans ((va_up_ne _ _ (by omega)).trans ((va_up_ne _ _ (by omega)).trans ((va_up_ne _ _ (by omega)).trans ((va_up_ne _ _ (by omega)).trans ((va_up_ne _ _ (by omega)).trans ((va_up_ne _ _ (by omega)).trans (va_up_self _ _ _)))))))) ▸ z
        rw [cel9 r709, fs9, hM.1, hM.2.1, hM.2.2.1, hM.2.2.2.1, hM.2.2.2.2.1, hM.2.2.2.2.2.1, hM.2.2.2.2.2.2.1, hM.2.2.2.2.2.2.2]; exact z
      · rw [e1] at z ⊢
        replace z : va_at DD vwCl (B + (709 + 1), _) H := (show (va_up (va_up (va_up (va_up (va_up (va_up (va_up (va_up (C ca B) (709) (.inr (9, [.int 0, .ref (B + (709 + 1)), .ref (B + (709 + 2)), .int 0, .ref (B + (709 + 3)), .ref (B + (709 + 4)), .ref (B + (709 + 5)), .ref (B + (709 + 6)), .int 0, .int 0, .int 0, .int 0, .int 0, .int 0, .ref (B + (709 + 7))]))) (709 + 1) (.inl (ca 11, 1804, .inl (fun _ => 0)))) (709 + 2) (.inl (ca 11, 10824, .inl (fun _ => 0)))) (709 + 3) (.inl (ca 11, 3608, .inl (fun _ => 0)))) (709 + 4) (.inl (ca 11, 2, .inl (fun _ => 0)))) (709 + 5) (.inl (ca 11, 1804, .inl (fun _ => 0)))) (709 + 6) (.inl (ca 11, 60, .inl (fun _ => 0)))) (709 + 7) (.inl (ca 11, 8, .inl (fun _ => 0)))) (709 + 1) = _ from (va_up_ne _ _ (by omega)).trans ((va_up_ne _ _ (by omega)).trans ((va_up_ne _ _ (by omega)).trans ((va_up_ne _ _ (by omega)).trans ((va_up_ne _ _ (by omega)).trans ((va_up_ne _ _ (by omega)).trans (va_up_self _ _ _))))))) ▸ z
        rw [cel11 a710]; exact at_i (fun j hj => (hA 710 (by decide) (by decide) j).symm) z
      · rw [e1] at z ⊢
        replace z : va_at DD vwCl (B + (709 + 2), _) H := (show (va_up (va_up (va_up (va_up (va_up (va_up (va_up (va_up (C ca B) (709) (.inr (9, [.int 0, .ref (B + (709 + 1)), .ref (B + (709 + 2)), .int 0, .ref (B + (709 + 3)), .ref (B + (709 + 4)), .ref (B + (709 + 5)), .ref (B + (709 + 6)), .int 0, .int 0, .int 0, .int 0, .int 0, .int 0, .ref (B + (709 + 7))]))) (709 + 1) (.inl (ca 11, 1804, .inl (fun _ => 0)))) (709 + 2) (.inl (ca 11, 10824, .inl (fun _ => 0)))) (709 + 3) (.inl (ca 11, 3608, .inl (fun _ => 0)))) (709 + 4) (.inl (ca 11, 2, .inl (fun _ => 0)))) (709 + 5) (.inl (ca 11, 1804, .inl (fun _ => 0)))) (709 + 6) (.inl (ca 11, 60, .inl (fun _ => 0)))) (709 + 7) (.inl (ca 11, 8, .inl (fun _ => 0)))) (709 + 2) = _ from (va_up_ne _ _ (by omega)).trans ((va_up_ne _ _ (by omega)).trans ((va_up_ne _ _ (by omega)).trans ((va_up_ne _ _ (by omega)).trans ((va_up_ne _ _ (by omega)).trans (va_up_self _ _ _)))))) ▸ z
        rw [cel11 a711]; exact at_i (fun j hj => (hA 711 (by decide) (by decide) j).symm) z
      · rw [e1] at z ⊢
        replace z : va_at DD vwCl (B + (709 + 3), _) H := (show (va_up (va_up (va_up (va_up (va_up (va_up (va_up (va_up (C ca B) (709) (.inr (9, [.int 0, .ref (B + (709 + 1)), .ref (B + (709 + 2)), .int 0, .ref (B + (709 + 3)), .ref (B + (709 + 4)), .ref (B + (709 + 5)), .ref (B + (709 + 6)), .int 0, .int 0, .int 0, .int 0, .int 0, .int 0, .ref (B + (709 + 7))]))) (709 + 1) (.inl (ca 11, 1804, .inl (fun _ => 0)))) (709 + 2) (.inl (ca 11, 10824, .inl (fun _ => 0)))) (709 + 3) (.inl (ca 11, 3608, .inl (fun _ => 0)))) (709 + 4) (.inl (ca 11, 2, .inl (fun _ => 0)))) (709 + 5) (.inl (ca 11, 1804, .inl (fun _ => 0)))) (709 + 6) (.inl (ca 11, 60, .inl (fun _ => 0)))) (709 + 7) (.inl (ca 11, 8, .inl (fun _ => 0)))) (709 + 3) = _ from (va_up_ne _ _ (by omega)).trans ((va_up_ne _ _ (by omega)).trans ((va_up_ne _ _ (by omega)).trans ((va_up_ne _ _ (by omega)).trans (va_up_self _ _ _))))) ▸ z
        rw [cel11 a712]; exact at_i (fun j hj => (hA 712 (by decide) (by decide) j).symm) z
      · rw [e1] at z ⊢
        replace z : va_at DD vwCl (B + (709 + 4), _) H := (show (va_up (va_up (va_up (va_up (va_up (va_up (va_up (va_up (C ca B) (709) (.inr (9, [.int 0, .ref (B + (709 + 1)), .ref (B + (709 + 2)), .int 0, .ref (B + (709 + 3)), .ref (B + (709 + 4)), .ref (B + (709 + 5)), .ref (B + (709 + 6)), .int 0, .int 0, .int 0, .int 0, .int 0, .int 0, .ref (B + (709 + 7))]))) (709 + 1) (.inl (ca 11, 1804, .inl (fun _ => 0)))) (709 + 2) (.inl (ca 11, 10824, .inl (fun _ => 0)))) (709 + 3) (.inl (ca 11, 3608, .inl (fun _ => 0)))) (709 + 4) (.inl (ca 11, 2, .inl (fun _ => 0)))) (709 + 5) (.inl (ca 11, 1804, .inl (fun _ => 0)))) (709 + 6) (.inl (ca 11, 60, .inl (fun _ => 0)))) (709 + 7) (.inl (ca 11, 8, .inl (fun _ => 0)))) (709 + 4) = _ from (va_up_ne _ _ (by omega)).trans ((va_up_ne _ _ (by omega)).trans ((va_up_ne _ _ (by omega)).trans (va_up_self _ _ _)))) ▸ z
        rw [cel11 a713]; exact at_i (fun j hj => (hA 713 (by decide) (by decide) j).symm) z
      · rw [e1] at z ⊢
        replace z : va_at DD vwCl (B + (709 + 5), _) H := (show (va_up (va_up (va_up (va_up (va_up (va_up (va_up (va_up (C ca B) (709) (.inr (9, [.int 0, .ref (B + (709 + 1)), .ref (B + (709 + 2)), .int 0, .ref (B + (709 + 3)), .ref (B + (709 + 4)), .ref (B + (709 + 5)), .ref (B + (709 + 6)), .int 0, .int 0, .int 0, .int 0, .int 0, .int 0, .ref (B + (709 + 7))]))) (709 + 1) (.inl (ca 11, 1804, .inl (fun _ => 0)))) (709 + 2) (.inl (ca 11, 10824, .inl (fun _ => 0)))) (709 + 3) (.inl (ca 11, 3608, .inl (fun _ => 0)))) (709 + 4) (.inl (ca 11, 2, .inl (fun _ => 0)))) (709 + 5) (.inl (ca 11, 1804, .inl (fun _ => 0)))) (709 + 6) (.inl (ca 11, 60, .inl (fun _ => 0)))) (709 + 7) (.inl (ca 11, 8, .inl (fun _ => 0)))) (709 + 5) = _ from (va_up_ne _ _ (by omega)).trans ((va_up_ne _ _ (by omega)).trans (va_up_self _ _ _))) ▸ z
        rw [cel11 a714]; exact at_i (fun j hj => (hA 714 (by decide) (by decide) j).symm) z
      · rw [e1] at z ⊢
        replace z : va_at DD vwCl (B + (709 + 6), _) H := (show (va_up (va_up (va_up (va_up (va_up (va_up (va_up (va_up (C ca B) (709) (.inr (9, [.int 0, .ref (B + (709 + 1)), .ref (B + (709 + 2)), .int 0, .ref (B + (709 + 3)), .ref (B + (709 + 4)), .ref (B + (709 + 5)), .ref (B + (709 + 6)), .int 0, .int 0, .int 0, .int 0, .int 0, .int 0, .ref (B + (709 + 7))]))) (709 + 1) (.inl (ca 11, 1804, .inl (fun _ => 0)))) (709 + 2) (.inl (ca 11, 10824, .inl (fun _ => 0)))) (709 + 3) (.inl (ca 11, 3608, .inl (fun _ => 0)))) (709 + 4) (.inl (ca 11, 2, .inl (fun _ => 0)))) (709 + 5) (.inl (ca 11, 1804, .inl (fun _ => 0)))) (709 + 6) (.inl (ca 11, 60, .inl (fun _ => 0)))) (709 + 7) (.inl (ca 11, 8, .inl (fun _ => 0)))) (709 + 6) = _ from (va_up_ne _ _ (by omega)).trans (va_up_self _ _ _)) ▸ z
        rw [cel11 a715]; exact at_i (fun j hj => (hA 715 (by decide) (by decide) j).symm) z
      · rw [e1] at z ⊢
        replace z : va_at DD vwCl (B + (709 + 7), _) H := (show (va_up (va_up (va_up (va_up (va_up (va_up (va_up (va_up (C ca B) (709) (.inr (9, [.int 0, .ref (B + (709 + 1)), .ref (B + (709 + 2)), .int 0, .ref (B + (709 + 3)), .ref (B + (709 + 4)), .ref (B + (709 + 5)), .ref (B + (709 + 6)), .int 0, .int 0, .int 0, .int 0, .int 0, .int 0, .ref (B + (709 + 7))]))) (709 + 1) (.inl (ca 11, 1804, .inl (fun _ => 0)))) (709 + 2) (.inl (ca 11, 10824, .inl (fun _ => 0)))) (709 + 3) (.inl (ca 11, 3608, .inl (fun _ => 0)))) (709 + 4) (.inl (ca 11, 2, .inl (fun _ => 0)))) (709 + 5) (.inl (ca 11, 1804, .inl (fun _ => 0)))) (709 + 6) (.inl (ca 11, 60, .inl (fun _ => 0)))) (709 + 7) (.inl (ca 11, 8, .inl (fun _ => 0)))) (709 + 7) = _ from va_up_self _ _ _) ▸ z
        rw [cel11 a716]; exact at_i (fun j hj => (hA 716 (by decide) (by decide) j).symm) z
  refine g_iconst F (v := 0) dX9_init_63 (by decide) ?_
  refine g_istore_n F (lv2 := [(1, _), (0, _)]) dX9_init_64 rfl (by decide) rfl ?_
  have LA : ∀ (ni i : Nat), i + ni = 8 → G pp l ee rmX9_init ss mm aa bb me c9 QQ DD ca B ([] : va_W) (AB B) 2 7 18110 (va_up M 710 (iaR (M 710) i)) 65 [(1, .int (nI i)), (0, .ref (B + 709))] [] := by
    intro ni
    induction ni with
    | zero =>
      intro i hni
      refine g_iload_n F dX9_init_65 rfl 0 rfl ?_
      refine g_bipush F (v := 8) dX9_init_66 (by decide +kernel) ?_
      refine g_icmpN_ge F 108 dX9_init_68 (by decide) (i) (8) rfl rfl (by omega) (by omega) (fun hci => ?_) (fun hci => ?_)
      · obtain rfl : i = 8 := by omega
        refine g_iconst F (v := 0) dX9_init_108 (by decide) ?_
        refine g_istore_n F (lv2 := [(1, _), (0, _)]) dX9_init_109 rfl (by decide) rfl ?_
        have LB : ∀ (ni i : Nat), i + ni = 3 → G pp l ee rmX9_init ss mm aa bb me c9 QQ DD ca B ([] : va_W) (AB B) 2 7 18110 (va_up M 710 (ibR (iaR (M 710) 8) i)) 110 [(1, .int (nI i)), (0, .ref (B + 709))] [] := by
          intro ni
          induction ni with
          | zero =>
            intro i hni
            refine g_iload_n F dX9_init_110 rfl 0 rfl ?_
            refine g_iconst F (v := 3) dX9_init_111 (by decide) ?_
            refine g_icmpN_ge F 131 dX9_init_112 (by decide) (i) (3) rfl rfl (by omega) (by omega) (fun hci => ?_) (fun hci => ?_)
            · obtain rfl : i = 3 := by omega
              refine g_aload_n F dX9_init_131 rfl 1 rfl ?_
              refine gg9_state F iX9_init_9 r709 (by decide +kernel) dX9_init_132 ?_
              refine g_bipush F (v := 71) dX9_init_135 (by decide +kernel) ?_
              refine g_iconst F (v := 3) dX9_init_137 (by decide) ?_
              refine g_iastore (r := 710) F a710 (71) rfl (by omega) (by decide) dX9_init_138 ?_
              refine g_aload_n F dX9_init_139 rfl 1 rfl ?_
              refine gg9_state F iX9_init_9 r709 (by decide +kernel) dX9_init_140 ?_
              refine g_bipush F (v := 72) dX9_init_143 (by decide +kernel) ?_
              refine g_iconst F (v := 3) dX9_init_145 (by decide) ?_
              refine g_iastore (r := 710) F a710 (72) rfl (by omega) (by decide) dX9_init_146 ?_
              refine g_aload_n F dX9_init_147 rfl 1 rfl ?_
              refine g_callV F (kX9_forget l) (cwV 0 F.1.2.2.2.2 gX9_init_X9_forget rfl rfl rfl (by decide +kernel) ⟨Nat.le_of_ble_eq_true rfl, Nat.le_of_ble_eq_true rfl⟩) r709 (by decide) rfl rfl rfl rfl (Nat.le_of_ble_eq_true rfl) dX9_init_148 ⟨Nat.le_of_ble_eq_true rfl, Nat.le_of_ble_eq_true rfl⟩ (g_det ?_)
              exact K _ _ _ dX9_init_151 (by simp only [bx_uu, va_up_self]; rfl)
            · exact absurd hci (by omega)
          | succ ni ihi =>
            intro i hni
            refine g_iload_n F dX9_init_110 rfl 0 rfl ?_
            refine g_iconst F (v := 3) dX9_init_111 (by decide) ?_
            refine g_icmpN_ge F 131 dX9_init_112 (by decide) (i) (3) rfl rfl (by omega) (by omega) (fun hci => ?_) (fun hci => ?_)
            · exact absurd hci (by omega)
            · refine g_aload_n F dX9_init_115 rfl 1 rfl ?_
              refine gg9_state F iX9_init_9 r709 (by decide +kernel) dX9_init_116 ?_
              refine g_bipush F (v := 62) dX9_init_119 (by decide +kernel) ?_
              refine g_iload_n F dX9_init_121 rfl 0 rfl ?_
              refine g_iadd F dX9_init_122 ?_
              refine g_top (nI_add (62) (i)) ?_
              refine g_iconst F (v := -1) dX9_init_123 (by decide) ?_
              refine g_iastore (r := 710) F a710 ((62 + i)) rfl (by omega) (by decide) dX9_init_124 ?_
              refine g_iinc F (lv2 := [(1, _), (0, _)]) dX9_init_125 0 rfl (nI_1 _) (by decide) rfl ?_
              refine g_goto F 110 dX9_init_128 (by decide) ?_
              refine g_lv (lv2 := [(1, _), (0, _)]) [0, 1] rfl ?_
              exact g_is (by simp only [bx_uu, va_up_self]; rfl) rfl (ihi (i + 1) (by omega))
        refine g_lv (lv2 := [(1, _), (0, _)]) [0, 1] rfl ?_
        exact g_is rfl rfl (LB (3 - 0) (0) (by omega))
      · exact absurd hci (by omega)
    | succ ni ihi =>
      intro i hni
      refine g_iload_n F dX9_init_65 rfl 0 rfl ?_
      refine g_bipush F (v := 8) dX9_init_66 (by decide +kernel) ?_
      refine g_icmpN_ge F 108 dX9_init_68 (by decide) (i) (8) rfl rfl (by omega) (by omega) (fun hci => ?_) (fun hci => ?_)
      · exact absurd hci (by omega)
      · refine g_aload_n F dX9_init_71 rfl 1 rfl ?_
        refine gg9_state F iX9_init_9 r709 (by decide +kernel) dX9_init_72 ?_
        refine g_iconst F (v := 0) dX9_init_75 (by decide) ?_
        refine g_iload_n F dX9_init_76 rfl 0 rfl ?_
        refine g_iadd F dX9_init_77 ?_
        refine g_top (nI_add (0) (i)) ?_
        refine g_iconst F (v := 3) dX9_init_78 (by decide) ?_
        refine g_iastore (r := 710) F a710 ((0 + i)) rfl (by omega) (by decide) dX9_init_79 ?_
        refine g_aload_n F dX9_init_80 rfl 1 rfl ?_
        refine gg9_state F iX9_init_9 r709 (by decide +kernel) dX9_init_81 ?_
        refine g_bipush F (v := 16) dX9_init_84 (by decide +kernel) ?_
        refine g_iload_n F dX9_init_86 rfl 0 rfl ?_
        refine g_iadd F dX9_init_87 ?_
        refine g_top (nI_add (16) (i)) ?_
        refine g_iconst F (v := 4) dX9_init_88 (by decide) ?_
        refine g_iastore (r := 710) F a710 ((16 + i)) rfl (by omega) (by decide) dX9_init_89 ?_
        refine g_aload_n F dX9_init_90 rfl 1 rfl ?_
        refine gg9_state F iX9_init_9 r709 (by decide +kernel) dX9_init_91 ?_
        refine g_bipush F (v := 24) dX9_init_94 (by decide +kernel) ?_
        refine g_iload_n F dX9_init_96 rfl 0 rfl ?_
        refine g_iadd F dX9_init_97 ?_
        refine g_top (nI_add (24) (i)) ?_
        refine g_iload_n F dX9_init_98 rfl 0 rfl ?_
        refine g_iconst F (v := 4) dX9_init_99 (by decide) ?_
        refine g_irem F dX9_init_100 (by decide) ?_
        refine g_top (pk_rem (a := i) (d := 4) (by omega) (by omega) (by omega)) ?_
        refine g_iastore (r := 710) F a710 ((24 + i)) rfl (by omega) (by decide) dX9_init_101 ?_
        refine g_iinc F (lv2 := [(1, _), (0, _)]) dX9_init_102 0 rfl (nI_1 _) (by decide) rfl ?_
        refine g_goto F 65 dX9_init_105 (by decide) ?_
        refine g_lv (lv2 := [(1, _), (0, _)]) [0, 1] rfl ?_
        exact g_is (by simp only [bx_uu, va_up_self]; rfl) rfl (ihi (i + 1) (by omega))
  refine g_lv (lv2 := [(1, _), (0, _)]) [0, 1] rfl ?_
  exact g_is (up_id M 710).symm rfl (LA (8 - 0) (0) (by omega))
