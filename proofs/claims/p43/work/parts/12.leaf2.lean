/-- the row that ends before place n, counted -/
def upR (f : Nat → Int32) (lim : Int32) : Nat → Nat
  | 0 => 0
  | n + 1 => if f n < lim then 0 else upR f lim n + 1
theorem upR_le (f : Nat → Int32) (lim : Int32) : ∀ n, upR f lim n ≤ n := by
  intro n
  induction n with
  | zero => exact Nat.le_refl 0
  | succ n ih => unfold upR; split; exact Nat.zero_le _; exact Nat.succ_le_succ ih
theorem upR_is (f : Nat → Int32) (lim : Int32) : ∀ (k n : Nat), k ≤ n → (∀ j, j < k → ¬ f (n - 1 - j) < lim) → (k = n ∨ f (n - 1 - k) < lim) → upR f lim n = k := by
  intro k
  induction k with
  | zero =>
    intro n _ _ h
    cases n with
    | zero => rfl
    | succ n =>
      rcases h with h | h
      · exact absurd h (by omega)
      · unfold upR; exact if_pos h
  | succ k ih =>
    intro n hk hj h
    cases n with
    | zero => exact absurd hk (by omega)
    | succ n =>
      unfold upR
      rw [if_neg (show ¬ f n < lim from hj 0 (by omega)), ih n (by omega) (fun j hjk => by have := hj (j + 1) (by omega); rwa [show n + 1 - 1 - (j + 1) = n - 1 - j by omega] at this) (by
        rcases h with h | h
        · exact Or.inl (by omega)
        · exact Or.inr (by rwa [show n + 1 - 1 - (k + 1) = n - 1 - k by omega] at h))]
theorem upR_ge (f : Nat → Int32) (lim : Int32) : ∀ (k n : Nat), k ≤ n → (∀ j, j < k → ¬ f (n - 1 - j) < lim) → k ≤ upR f lim n := by
  intro k
  induction k with
  | zero => intro n _ _; exact Nat.zero_le _
  | succ k ih =>
    intro n hk hj
    cases n with
    | zero => exact absurd hk (by omega)
    | succ n =>
      unfold upR
      rw [if_neg (show ¬ f n < lim from hj 0 (by omega))]
      exact Nat.succ_le_succ (ih n (by omega) (fun j hjk => by have := hj (j + 1) (by omega); rwa [show n + 1 - 1 - (j + 1) = n - 1 - j by omega] at this))
def sumF (f : Nat → Int32) (a : Nat) : Nat → Int32
  | 0 => 0
  | n + 1 => sumF f a n + f (a + n)
theorem isR_ne {j k r q : Nat} (h : isR j r) (h2 : isR k q) (n : j ≠ k) : r ≠ q := fun z => n (by rw [← h.2, ← h2.2, z])
theorem isAR {k n r : Nat} (h : isA k n r) : isR k r := ⟨h.1, h.2.1⟩
theorem atF_m1 (f : Nat → Int32) {t : Nat} (ht : t < 96) : atF f (nI t - nI (t + 1)) = -1 := atF_out f (Or.inl (pk_sneg (by omega) (by omega)))

abbrev rmX1_rowUpTo : Room := { frames := 1, cells := 0, slots := 0, locals := 21 }
set_option maxHeartbeats 4000000 in
set_option maxRecDepth 100000 in
theorem kX1_rowUpTo (l : Launch) {M : Mm} {r : Nat} (hr : isR 1 r) (t m : Nat) (ht : t < 96) (hm : m < 100) (x : Int32) (hx : -1 < x) : Ct l yX1_rowUpTo wsX1_rowUpTo rmX1_rowUpTo (fun B => [.ref (B + r), .int (nI t), .int x, .int (nI m)]) M (fun _ v u => v = some (.int (nI (min m (upR (M (r + 1)) x (t + 1))))) ∧ u = M) := by
  refine Ct.ofI (own := RX1) (by decide +kernel) rfl rfl (fun B => Nat.le_of_ble_eq_true rfl) ?_
  intro pp ee ss mm aa bb me c9 DD ca B Tl AA QQ F K
  show G pp l ee rmX1_rowUpTo ss mm aa bb me c9 QQ DD ca B Tl AA 5 0 0 M 0 [(0, .ref (B + r)), (1, .int (nI t)), (2, .int x), (3, .int (nI m))] []
  refine g_iconst F (v := 0) dX1_rowUpTo_0 (by decide) ?_
  refine g_istore F (lv2 := [(4, _), (0, _), (1, _), (2, _), (3, _)]) dX1_rowUpTo_1 (by decide) rfl ?_
  have LP : ∀ (nk k : Nat), k + nk = m → (k ≤ t + 1 ∧ ∀ j, j < k → ¬ M (r + 1) (t + 1 - 1 - j) < x) → G pp l ee rmX1_rowUpTo ss mm aa bb me c9 QQ DD ca B Tl AA 5 0 0 (M) 3 [(4, .int (nI k)), (0, .ref (B + r)), (1, .int (nI t)), (2, .int x), (3, .int (nI m))] [] := by
    intro nk
    induction nk with
    | zero =>
      intro k hnk hyk
      refine g_iload F dX1_rowUpTo_3 0 rfl ?_
      refine g_iload_n F dX1_rowUpTo_5 rfl 4 rfl ?_
      refine g_icmpN_ge F 27 dX1_rowUpTo_6 (by decide) (k) (m) rfl rfl (by omega) (by omega) (fun hck => ?_) (fun hck => ?_)
      · have hR : min m (upR (M (r + 1)) x (t + 1)) = k := by have := upR_ge (M (r + 1)) x k (t + 1) hyk.1 hyk.2; omega
        obtain rfl : k = m := by omega
        refine g_iload F dX1_rowUpTo_27 0 rfl ?_
        exact K _ _ _ _ dX1_rowUpTo_29 rfl ⟨by rw [hR], rfl⟩
      · exact absurd hck (by omega)
    | succ nk ihk =>
      intro k hnk hyk
      refine g_iload F dX1_rowUpTo_3 0 rfl ?_
      refine g_iload_n F dX1_rowUpTo_5 rfl 4 rfl ?_
      refine g_icmpN_ge F 27 dX1_rowUpTo_6 (by decide) (k) (m) rfl rfl (by omega) (by omega) (fun hck => ?_) (fun hck => ?_)
      · exact absurd hck (by omega)
      · rcases (show k = t + 1 ∨ k ≤ t by omega) with hk | hk
        · subst hk
          refine g_aload_n F dX1_rowUpTo_9 rfl 1 rfl ?_
          refine g_iload_n F dX1_rowUpTo_10 rfl 2 rfl ?_
          refine g_iload F dX1_rowUpTo_11 0 rfl ?_
          refine g_isub F dX1_rowUpTo_13 ?_
          refine g_callV F (kX1_at l hr _) (cwV 1 F.1.2.2.2.2 gX1_rowUpTo_X1_at rfl rfl rfl (by decide +kernel) ⟨Nat.le_of_ble_eq_true rfl, Nat.le_of_ble_eq_true rfl⟩) hr (by decide) rfl rfl rfl rfl (Nat.le_of_ble_eq_true rfl) dX1_rowUpTo_14 ⟨Nat.le_of_ble_eq_true rfl, Nat.le_of_ble_eq_true rfl⟩ (g_det ?_)
          refine g_top (atF_m1 _ ht) ?_
          refine g_iload_n F dX1_rowUpTo_17 rfl 3 rfl ?_
          refine g_icmp_lt F 27 dX1_rowUpTo_18 (by decide) (fun h3 => ?_) (fun h3 => ?_)
          · have hR : min m (upR (M (r + 1)) x (t + 1)) = t + 1 := by rw [upR_is (M (r + 1)) x (t + 1) (t + 1) (by omega) hyk.2 (Or.inl rfl)]; omega
            refine g_iload F dX1_rowUpTo_27 0 rfl ?_
            exact K _ _ _ _ dX1_rowUpTo_29 rfl ⟨by rw [hR], rfl⟩
          · exact absurd hx (fun z => h3 z)
        · skip
          refine g_aload_n F dX1_rowUpTo_9 rfl 1 rfl ?_
          refine g_iload_n F dX1_rowUpTo_10 rfl 2 rfl ?_
          refine g_iload F dX1_rowUpTo_11 0 rfl ?_
          refine g_isub F dX1_rowUpTo_13 ?_
          refine g_top (pk_sub (a := t) (b := k) (by omega)) ?_
          refine g_callV F (kX1_at l hr _) (cwV 1 F.1.2.2.2.2 gX1_rowUpTo_X1_at rfl rfl rfl (by decide +kernel) ⟨Nat.le_of_ble_eq_true rfl, Nat.le_of_ble_eq_true rfl⟩) hr (by decide) rfl rfl rfl rfl (Nat.le_of_ble_eq_true rfl) dX1_rowUpTo_14 ⟨Nat.le_of_ble_eq_true rfl, Nat.le_of_ble_eq_true rfl⟩ (g_det ?_)
          refine g_top (atF_n _ (by omega)) ?_
          refine g_iload_n F dX1_rowUpTo_17 rfl 3 rfl ?_
          refine g_icmp_lt F 27 dX1_rowUpTo_18 (by decide) (fun h3 => ?_) (fun h3 => ?_)
          · have hR : min m (upR (M (r + 1)) x (t + 1)) = k := by
              rw [upR_is (M (r + 1)) x k (t + 1) hyk.1 hyk.2 (Or.inr (by rw [show t + 1 - 1 - k = t - k by omega]; exact h3))]; omega
            refine g_iload F dX1_rowUpTo_27 0 rfl ?_
            exact K _ _ _ _ dX1_rowUpTo_29 rfl ⟨by rw [hR], rfl⟩
          · refine g_iinc F (lv2 := [(4, _), (0, _), (1, _), (2, _), (3, _)]) dX1_rowUpTo_21 0 rfl (nI_1 _) (by decide) rfl ?_
            refine g_goto F 3 dX1_rowUpTo_24 (by decide) ?_
            refine g_lv (lv2 := [(4, _), (0, _), (1, _), (2, _), (3, _)]) [0, 1, 2, 3, 4] rfl ?_
            exact g_is rfl rfl (ihk (k + 1) (by omega) ⟨by omega, fun j h => by by_cases hj : j = k; exact (by rw [hj, show t + 1 - 1 - k = t - k by omega]; exact h3); exact hyk.2 j (by omega)⟩)
  refine g_lv (lv2 := [(4, _), (0, _), (1, _), (2, _), (3, _)]) [0, 1, 2, 3, 4] rfl ?_
  exact g_is rfl rfl (LP (m - 0) (0) (by omega) ⟨by omega, fun j h => absurd h (by omega)⟩)

abbrev rmJ7_fill_53178 : Room := { frames := 0, cells := 0, slots := 0, locals := 0 }
set_option maxHeartbeats 4000000 in
set_option maxRecDepth 100000 in
theorem kJ7_fill (l : Launch) {M : Mm} {r n : Nat} (hr : isA 11 n r) (hn : n < 2 ^ 31) (x : Int32) : Ct l yJ7_fill_53178 wsJ7_fill_53178 rmJ7_fill_53178 (fun B => [.ref (B + r), .int x]) M (fun _ v u => v = none ∧ u = va_up M r (fun _ => x)) := by
  refine Ct.ofV (own := RJ7) (by decide +kernel) rfl rfl (fun B => Nat.le_of_ble_eq_true rfl) ?_
  intro pp ee ss mm aa bb me c9 DD ca B Tl AA QQ F K
  show G pp l ee rmJ7_fill_53178 ss mm aa bb me c9 QQ DD ca B Tl AA 4 0 0 M 0 [(0, .ref (B + r)), (1, .int x)] []
  refine g_iconst F (v := 0) dJ7_fill_53178_0 (by decide) ?_
  refine g_istore_n F (lv2 := [(2, _), (0, _), (1, _)]) dJ7_fill_53178_1 rfl (by decide) rfl ?_
  refine g_aload_n F dJ7_fill_53178_2 rfl 1 rfl ?_
  refine g_alen F hr dJ7_fill_53178_3 ?_
  refine g_istore_n F (lv2 := [(3, _), (2, _), (0, _), (1, _)]) dJ7_fill_53178_4 rfl (by decide) rfl ?_
  have LP : ∀ (ni i : Nat), i + ni = n → G pp l ee rmJ7_fill_53178 ss mm aa bb me c9 QQ DD ca B Tl AA 4 0 0 (va_up M r (fun j => if j < i then x else M r j)) 5 [(2, .int (nI i)), (0, .ref (B + r)), (1, .int x), (3, .int (nI n))] [] := by
    intro ni
    induction ni with
    | zero =>
      intro i hni
      refine g_iload_n F dJ7_fill_53178_5 rfl 0 rfl ?_
      refine g_iload_n F dJ7_fill_53178_6 rfl 3 rfl ?_
      refine g_icmpN_ge F 20 dJ7_fill_53178_7 (by decide) (i) (n) rfl rfl (by omega) (by omega) (fun hci => ?_) (fun hci => ?_)
      · obtain rfl : i = n := by omega
        refine g_ext (fun _ => x) (fun j hj => by rw [nf_A hr (Or.inr rfl)] at hj; simp [hj]) ?_
        exact K _ _ _ dJ7_fill_53178_20 ⟨rfl, rfl⟩
      · exact absurd hci (by omega)
    | succ ni ihi =>
      intro i hni
      refine g_iload_n F dJ7_fill_53178_5 rfl 0 rfl ?_
      refine g_iload_n F dJ7_fill_53178_6 rfl 3 rfl ?_
      refine g_icmpN_ge F 20 dJ7_fill_53178_7 (by decide) (i) (n) rfl rfl (by omega) (by omega) (fun hci => ?_) (fun hci => ?_)
      · exact absurd hci (by omega)
      · refine g_aload_n F dJ7_fill_53178_10 rfl 1 rfl ?_
        refine g_iload_n F dJ7_fill_53178_11 rfl 0 rfl ?_
        refine g_iload_n F dJ7_fill_53178_12 rfl 2 rfl ?_
        refine g_iastore F hr (i) rfl (by omega) hn dJ7_fill_53178_13 ?_
        refine g_iinc F (lv2 := [(2, _), (0, _), (1, _), (3, _)]) dJ7_fill_53178_14 0 rfl (nI_1 _) (by decide) rfl ?_
        refine g_goto F 5 dJ7_fill_53178_17 (by decide) ?_
        refine g_lv (lv2 := [(2, _), (0, _), (1, _), (3, _)]) [0, 1, 2, 3] rfl ?_
        exact g_is (by rw [bx_uu, va_up_self]; congr 1; funext j; simp only [upd]; by_cases hj : j = i; simp [hj]; by_cases h2 : j < i; simp [hj, h2, Nat.lt_succ_of_lt h2]; simp [hj, h2, show ¬ j < i + 1 by omega]) rfl (ihi (i + 1) (by omega))
  refine g_lv (lv2 := [(2, _), (0, _), (1, _), (3, _)]) [1, 2, 3, 0] rfl ?_
  exact g_is (by funext a; by_cases ha : a = r; subst ha; rw [va_up_self]; funext j; simp; rw [va_up_ne _ _ ha]) rfl (LP (n - 0) (0) (by omega))

abbrev rmX1_clear : Room := { frames := 1, cells := 0, slots := 0, locals := 23 }
theorem iX1_clear_1 : ∀ w ∈ u_ws RX1 TX1 1, w ∈ wsX1_clear := by decide +kernel
set_option maxHeartbeats 4000000 in
set_option maxRecDepth 100000 in
theorem kX1_clear (l : Launch) {M : Mm} {r : Nat} (hr : isR 1 r) : Ct l yX1_clear wsX1_clear rmX1_clear (fun B => [.ref (B + r)]) M (fun _ v u => v = none ∧ u = va_up M (r + 1) (fun _ => -1)) := by
  refine Ct.ofV (own := RX1) (by decide +kernel) rfl rfl (fun B => Nat.le_of_ble_eq_true rfl) ?_
  intro pp ee ss mm aa bb me c9 DD ca B Tl AA QQ F K
  show G pp l ee rmX1_clear ss mm aa bb me c9 QQ DD ca B Tl AA 1 0 0 M 0 [(0, .ref (B + r))] []
  refine g_aload_n F dX1_clear_0 rfl 0 rfl ?_
  refine gg1_values F iX1_clear_1 hr (by decide +kernel) dX1_clear_1 ?_
  refine g_iconst F (v := -1) dX1_clear_4 (by decide) ?_
  refine g_callS F (kJ7_fill l (sb1 hr) (by decide) _) (va_cwS 2 F.1.2.2.2.2 gX1_clear_J7_fill_53178 rfl rfl rfl (by decide +kernel) ⟨Nat.le_of_ble_eq_true rfl, Nat.le_of_ble_eq_true rfl⟩) rfl rfl rfl (Nat.le_of_ble_eq_true rfl) dX1_clear_5 ⟨Nat.le_of_ble_eq_true rfl, Nat.le_of_ble_eq_true rfl⟩ (g_det ?_)
  exact K _ _ _ dX1_clear_8 ⟨rfl, rfl⟩

abbrev rmX1_copyFrom : Room := { frames := 1, cells := 0, slots := 0, locals := 60 }
theorem iX1_copyFrom_1 : ∀ w ∈ u_ws RX1 TX1 1, w ∈ wsX1_copyFrom := by decide +kernel
set_option maxHeartbeats 4000000 in
set_option maxRecDepth 100000 in
theorem kX1_copyFrom (l : Launch) {M : Mm} {r q : Nat} (hr : isR 1 r) (hq : isR 1 q) : Ct l yX1_copyFrom wsX1_copyFrom rmX1_copyFrom (fun B => [.ref (B + r), .ref (B + q)]) M (fun _ v u => v = none ∧ u = va_up M (r + 1) (M (q + 1))) := by
  refine Ct.ofV (own := RX1) (by decide +kernel) rfl rfl (fun B => Nat.le_of_ble_eq_true rfl) ?_
  intro pp ee ss mm aa bb me c9 DD ca B Tl AA QQ F K
  show G pp l ee rmX1_copyFrom ss mm aa bb me c9 QQ DD ca B Tl AA 2 0 0 M 0 [(0, .ref (B + r)), (1, .ref (B + q))] []
  refine g_aload_n F dX1_copyFrom_0 rfl 1 rfl ?_
  refine gg1_values F iX1_copyFrom_1 hq (by decide +kernel) dX1_copyFrom_1 ?_
  refine g_iconst F (v := 0) dX1_copyFrom_4 (by decide) ?_
  refine g_aload_n F dX1_copyFrom_5 rfl 0 rfl ?_
  refine gg1_values F iX1_copyFrom_1 hr (by decide +kernel) dX1_copyFrom_6 ?_
  refine g_iconst F (v := 0) dX1_copyFrom_9 (by decide) ?_
  refine g_bipush F (v := 96) dX1_copyFrom_10 (by decide +kernel) ?_
  refine g_copy F (sb1 hq) (sb1 hr) (by decide) rfl (by decide +kernel) (by decide +kernel) (by decide +kernel) (by decide +kernel) (Nat.le_of_ble_eq_true rfl) (by decide +kernel) dX1_copyFrom_12 ?_
  exact K _ _ _ dX1_copyFrom_15 ⟨rfl, rfl⟩

abbrev rmX4_copyFrom : Room := { frames := 0, cells := 0, slots := 0, locals := 0 }
theorem iX4_copyFrom_4 : ∀ w ∈ u_ws RX4 TX4 5, w ∈ wsX4_copyFrom := by decide +kernel
set_option maxHeartbeats 4000000 in
set_option maxRecDepth 100000 in
theorem kX4_copyFrom (l : Launch) {M : Mm} {r q : Nat} (hr : isR 4 r) (hq : isR 4 q) (hqr : q ≠ r) : Ct l yX4_copyFrom wsX4_copyFrom rmX4_copyFrom (fun B => [.ref (B + r), .ref (B + q)]) M (fun _ v u => v = none ∧ u = va_up M r (M q)) := by
  refine Ct.ofV (own := RX4) (by decide +kernel) rfl rfl (fun B => Nat.le_of_ble_eq_true rfl) ?_
  intro pp ee ss mm aa bb me c9 DD ca B Tl AA QQ F K
  show G pp l ee rmX4_copyFrom ss mm aa bb me c9 QQ DD ca B Tl AA 2 0 0 M 0 [(0, .ref (B + r)), (1, .ref (B + q))] []
  refine g_aload_n F dX4_copyFrom_0 rfl 0 rfl ?_
  refine g_aload_n F dX4_copyFrom_1 rfl 1 rfl ?_
  refine gg4_watched F iX4_copyFrom_4 hq (by decide +kernel) dX4_copyFrom_2 ?_
  refine gp4_watched F iX4_copyFrom_4 hr (by decide +kernel) dX4_copyFrom_5 ?_
  try simp only [bx_uu, va_up_self, va_up_ne M _ hqr]
  refine g_aload_n F dX4_copyFrom_8 rfl 0 rfl ?_
  refine g_aload_n F dX4_copyFrom_9 rfl 1 rfl ?_
  refine gg4_bias F iX4_copyFrom_4 hq (by decide +kernel) dX4_copyFrom_10 ?_
  refine gp4_bias F iX4_copyFrom_4 hr (by decide +kernel) dX4_copyFrom_13 ?_
  try simp only [bx_uu, va_up_self, va_up_ne M _ hqr]
  refine g_aload_n F dX4_copyFrom_16 rfl 0 rfl ?_
  refine g_aload_n F dX4_copyFrom_17 rfl 1 rfl ?_
  refine gg4_tiredness F iX4_copyFrom_4 hq (by decide +kernel) dX4_copyFrom_18 ?_
  refine gp4_tiredness F iX4_copyFrom_4 hr (by decide +kernel) dX4_copyFrom_21 ?_
  try simp only [bx_uu, va_up_self, va_up_ne M _ hqr]
  refine g_aload_n F dX4_copyFrom_24 rfl 0 rfl ?_
  refine g_aload_n F dX4_copyFrom_25 rfl 1 rfl ?_
  refine gg4_errors F iX4_copyFrom_4 hq (by decide +kernel) dX4_copyFrom_26 ?_
  refine gp4_errors F iX4_copyFrom_4 hr (by decide +kernel) dX4_copyFrom_29 ?_
  try simp only [bx_uu, va_up_self, va_up_ne M _ hqr]
  refine g_aload_n F dX4_copyFrom_32 rfl 0 rfl ?_
  refine g_aload_n F dX4_copyFrom_33 rfl 1 rfl ?_
  refine gg4_readCount F iX4_copyFrom_4 hq (by decide +kernel) dX4_copyFrom_34 ?_
  refine gp4_readCount F iX4_copyFrom_4 hr (by decide +kernel) dX4_copyFrom_37 ?_
  try simp only [bx_uu, va_up_self, va_up_ne M _ hqr]
  refine g_ext (M q) (fun j hj => by rw [show nf r = 5 from by simp only [nf, hr.2]] at hj; rcases (show j = 0 ∨ j = 1 ∨ j = 2 ∨ j = 3 ∨ j = 4 by omega) with rfl | rfl | rfl | rfl | rfl <;> simp [upd]) ?_
  exact K _ _ _ dX4_copyFrom_40 ⟨rfl, rfl⟩

abbrev rmX3_copyFrom : Room := { frames := 0, cells := 0, slots := 0, locals := 0 }
theorem iX3_copyFrom_3 : ∀ w ∈ u_ws RX3 TX3 6, w ∈ wsX3_copyFrom := by decide +kernel
set_option maxHeartbeats 4000000 in
set_option maxRecDepth 100000 in
theorem kX3_copyFrom (l : Launch) {M : Mm} {r q : Nat} (hr : isR 3 r) (hq : isR 3 q) (hqr : q ≠ r) : Ct l yX3_copyFrom wsX3_copyFrom rmX3_copyFrom (fun B => [.ref (B + r), .ref (B + q)]) M (fun _ v u => v = none ∧ u = va_up M r (M q)) := by
  refine Ct.ofV (own := RX3) (by decide +kernel) rfl rfl (fun B => Nat.le_of_ble_eq_true rfl) ?_
  intro pp ee ss mm aa bb me c9 DD ca B Tl AA QQ F K
  show G pp l ee rmX3_copyFrom ss mm aa bb me c9 QQ DD ca B Tl AA 2 0 0 M 0 [(0, .ref (B + r)), (1, .ref (B + q))] []
  refine g_Ty (fun hT => ?_)
  refine g_aload_n F dX3_copyFrom_0 rfl 0 rfl ?_
  refine g_aload_n F dX3_copyFrom_1 rfl 1 rfl ?_
  refine gg3_chimney F iX3_copyFrom_3 hq (by decide +kernel) dX3_copyFrom_2 ?_
  refine gp3_chimney F iX3_copyFrom_3 hr (by decide +kernel) dX3_copyFrom_5 ?_
  try simp only [bx_uu, va_up_self, va_up_ne M _ hqr]
  refine g_aload_n F dX3_copyFrom_8 rfl 0 rfl ?_
  refine g_aload_n F dX3_copyFrom_9 rfl 1 rfl ?_
  refine gg3_fine F iX3_copyFrom_3 hq (by decide +kernel) dX3_copyFrom_10 ?_
  refine gp3_fine F iX3_copyFrom_3 hr (by decide +kernel) dX3_copyFrom_13 ?_
  try simp only [bx_uu, va_up_self, va_up_ne M _ hqr]
  refine g_aload_n F dX3_copyFrom_16 rfl 0 rfl ?_
  refine g_aload_n F dX3_copyFrom_17 rfl 1 rfl ?_
  refine gg3_wasGrey F iX3_copyFrom_3 hq (by decide +kernel) dX3_copyFrom_18 ?_
  refine gp3_wasGrey F iX3_copyFrom_3 hr (by decide +kernel) (by first | exact hT.1 q hq.2 2 (by decide) (by decide) | (rw [va_up_ne M _ hqr]; exact hT.1 q hq.2 2 (by decide) (by decide))) dX3_copyFrom_21 ?_
  try simp only [bx_uu, va_up_self, va_up_ne M _ hqr]
  refine g_aload_n F dX3_copyFrom_24 rfl 0 rfl ?_
  refine g_aload_n F dX3_copyFrom_25 rfl 1 rfl ?_
  refine gg3_wasLess F iX3_copyFrom_3 hq (by decide +kernel) dX3_copyFrom_26 ?_
  refine gp3_wasLess F iX3_copyFrom_3 hr (by decide +kernel) (by first | exact hT.1 q hq.2 3 (by decide) (by decide) | (rw [va_up_ne M _ hqr]; exact hT.1 q hq.2 3 (by decide) (by decide))) dX3_copyFrom_29 ?_
  try simp only [bx_uu, va_up_self, va_up_ne M _ hqr]
  refine g_aload_n F dX3_copyFrom_32 rfl 0 rfl ?_
  refine g_aload_n F dX3_copyFrom_33 rfl 1 rfl ?_
  refine gg3_appealed F iX3_copyFrom_3 hq (by decide +kernel) dX3_copyFrom_34 ?_
  refine gp3_appealed F iX3_copyFrom_3 hr (by decide +kernel) (by first | exact hT.1 q hq.2 4 (by decide) (by decide) | (rw [va_up_ne M _ hqr]; exact hT.1 q hq.2 4 (by decide) (by decide))) dX3_copyFrom_37 ?_
  try simp only [bx_uu, va_up_self, va_up_ne M _ hqr]
  refine g_aload_n F dX3_copyFrom_40 rfl 0 rfl ?_
  refine g_aload_n F dX3_copyFrom_41 rfl 1 rfl ?_
  refine gg3_standing F iX3_copyFrom_3 hq (by decide +kernel) dX3_copyFrom_42 ?_
  refine gp3_standing F iX3_copyFrom_3 hr (by decide +kernel) (by first | exact hT.1 q hq.2 5 (by decide) (by decide) | (rw [va_up_ne M _ hqr]; exact hT.1 q hq.2 5 (by decide) (by decide))) dX3_copyFrom_45 ?_
  try simp only [bx_uu, va_up_self, va_up_ne M _ hqr]
  refine g_ext (M q) (fun j hj => by rw [show nf r = 6 from by simp only [nf, hr.2]] at hj; rcases (show j = 0 ∨ j = 1 ∨ j = 2 ∨ j = 3 ∨ j = 4 ∨ j = 5 by omega) with rfl | rfl | rfl | rfl | rfl | rfl <;> simp [upd]) ?_
  exact K _ _ _ dX3_copyFrom_48 ⟨rfl, rfl⟩

def outC (f : Nat → Int32) : Int32 := if f 4 = 0 then (if f 2 = 0 then (if f 3 = 0 then 2 else 1) else 0) else 3

abbrev rmX3_outcome : Room := { frames := 0, cells := 0, slots := 0, locals := 0 }
theorem iX3_outcome_3 : ∀ w ∈ u_ws RX3 TX3 6, w ∈ wsX3_outcome := by decide +kernel
set_option maxHeartbeats 4000000 in
set_option maxRecDepth 100000 in
theorem kX3_outcome (l : Launch) {M : Mm} {r : Nat} (hr : isR 3 r) : Ct l yX3_outcome wsX3_outcome rmX3_outcome (fun B => [.ref (B + r)]) M (fun _ v u => v = some (.int (outC (M r))) ∧ u = M) := by
  refine Ct.ofI (own := RX3) (by decide +kernel) rfl rfl (fun B => Nat.le_of_ble_eq_true rfl) ?_
  intro pp ee ss mm aa bb me c9 DD ca B Tl AA QQ F K
  show G pp l ee rmX3_outcome ss mm aa bb me c9 QQ DD ca B Tl AA 1 0 0 M 0 [(0, .ref (B + r))] []
  refine g_aload_n F dX3_outcome_0 rfl 0 rfl ?_
  refine gg3_appealed F iX3_outcome_3 hr (by decide +kernel) dX3_outcome_1 ?_
  refine g_if_eq F 9 dX3_outcome_4 (by decide) (fun h1 => ?_) (fun h1 => ?_)
  · refine g_aload_n F dX3_outcome_9 rfl 0 rfl ?_
    refine gg3_wasGrey F iX3_outcome_3 hr (by decide +kernel) dX3_outcome_10 ?_
    refine g_if_eq F 18 dX3_outcome_13 (by decide) (fun h2 => ?_) (fun h2 => ?_)
    · refine g_aload_n F dX3_outcome_18 rfl 0 rfl ?_
      refine gg3_wasLess F iX3_outcome_3 hr (by decide +kernel) dX3_outcome_19 ?_
      refine g_if_eq F 29 dX3_outcome_22 (by decide) (fun h3 => ?_) (fun h3 => ?_)
      · refine g_iconst F (v := 2) dX3_outcome_29 (by decide) ?_
        exact K _ _ _ _ dX3_outcome_30 rfl ⟨by simp [outC, *], rfl⟩
      · refine g_iconst F (v := 1) dX3_outcome_25 (by decide) ?_
        refine g_goto F 30 dX3_outcome_26 (by decide) ?_
        exact K _ _ _ _ dX3_outcome_30 rfl ⟨by simp [outC, *], rfl⟩
    · refine g_iconst F (v := 0) dX3_outcome_16 (by decide) ?_
      exact K _ _ _ _ dX3_outcome_17 rfl ⟨by simp [outC, *], rfl⟩
  · refine g_iconst F (v := 3) dX3_outcome_7 (by decide) ?_
    exact K _ _ _ _ dX3_outcome_8 rfl ⟨by simp [outC, *], rfl⟩

def rdC (f : Nat → Int32) (sh gr : Int32) : Int32 := if gr < 3 then holdS (sh + f 1 - (if f 2 < 12 then 0 else 1)) else if 2 < sh then holdS (sh + f 1 - (if f 2 < 12 then 0 else 1)) else 0

abbrev rmX4_readingFor : Room := { frames := 1, cells := 0, slots := 0, locals := 20 }
theorem iX4_readingFor_4 : ∀ w ∈ u_ws RX4 TX4 5, w ∈ wsX4_readingFor := by decide +kernel
set_option maxHeartbeats 4000000 in
set_option maxRecDepth 100000 in
theorem kX4_readingFor (l : Launch) {M : Mm} {r : Nat} (hr : isR 4 r) (x y : Int32) : Ct l yX4_readingFor wsX4_readingFor rmX4_readingFor (fun B => [.ref (B + r), .int x, .int y]) M (fun _ v u => v = some (.int (rdC (M r) x y)) ∧ u = M) := by
  refine Ct.ofI (own := RX4) (by decide +kernel) rfl rfl (fun B => Nat.le_of_ble_eq_true rfl) ?_
  intro pp ee ss mm aa bb me c9 DD ca B Tl AA QQ F K
  show G pp l ee rmX4_readingFor ss mm aa bb me c9 QQ DD ca B Tl AA 4 0 0 M 0 [(0, .ref (B + r)), (1, .int x), (2, .int y)] []
  refine g_iload_n F dX4_readingFor_0 rfl 2 rfl ?_
  refine g_iconst F (v := 3) dX4_readingFor_1 (by decide) ?_
  refine g_icmp_lt F 12 dX4_readingFor_2 (by decide) (fun h1 => ?_) (fun h1 => ?_)
  · refine g_aload_n F dX4_readingFor_12 rfl 0 rfl ?_
    refine gg4_tiredness F iX4_readingFor_4 hr (by decide +kernel) dX4_readingFor_13 ?_
    refine g_bipush F (v := 12) dX4_readingFor_16 (by decide +kernel) ?_
    refine g_icmp_lt F 25 dX4_readingFor_18 (by decide) (fun h3 => ?_) (fun h3 => ?_)
    · refine g_iconst F (v := 0) dX4_readingFor_25 (by decide) ?_
      refine g_istore_n F (lv2 := [(3, _), (0, _), (1, _), (2, _)]) dX4_readingFor_26 rfl (by decide) rfl ?_
      refine g_iload_n F dX4_readingFor_27 rfl 2 rfl ?_
      refine g_aload_n F dX4_readingFor_28 rfl 1 rfl ?_
      refine gg4_bias F iX4_readingFor_4 hr (by decide +kernel) dX4_readingFor_29 ?_
      refine g_iadd F dX4_readingFor_32 ?_
      refine g_iload_n F dX4_readingFor_33 rfl 0 rfl ?_
      refine g_isub F dX4_readingFor_34 ?_
      refine g_callSN F (kX8_hold l _) ⟨va_cnB 1 F.1.2.2.2.2 gX4_readingFor_X8_hold_n27 rfl rfl rfl (F.2.2.2.1.1 (RX4, 27, yX8_hold, "ShadeCards") (by decide +kernel)) (F.1.2.2.2.2 (.initialized RX8) (by decide +kernel)) (by decide +kernel) ⟨Nat.le_of_ble_eq_true rfl, Nat.le_of_ble_eq_true rfl⟩, F.1.2.2.2.2 (.static yX8_hold) (by decide +kernel), trivial⟩ rfl rfl rfl (Nat.le_of_ble_eq_true rfl) dX4_readingFor_35 ⟨Nat.le_of_ble_eq_true rfl, Nat.le_of_ble_eq_true rfl⟩ (g_det ?_)
      exact K _ _ _ _ dX4_readingFor_38 rfl ⟨by simp [rdC, *], rfl⟩
    · refine g_iconst F (v := 1) dX4_readingFor_21 (by decide) ?_
      refine g_goto F 26 dX4_readingFor_22 (by decide) ?_
      refine g_istore_n F (lv2 := [(3, _), (0, _), (1, _), (2, _)]) dX4_readingFor_26 rfl (by decide) rfl ?_
      refine g_iload_n F dX4_readingFor_27 rfl 2 rfl ?_
      refine g_aload_n F dX4_readingFor_28 rfl 1 rfl ?_
      refine gg4_bias F iX4_readingFor_4 hr (by decide +kernel) dX4_readingFor_29 ?_
      refine g_iadd F dX4_readingFor_32 ?_
      refine g_iload_n F dX4_readingFor_33 rfl 0 rfl ?_
      refine g_isub F dX4_readingFor_34 ?_
      refine g_callSN F (kX8_hold l _) ⟨va_cnB 1 F.1.2.2.2.2 gX4_readingFor_X8_hold_n27 rfl rfl rfl (F.2.2.2.1.1 (RX4, 27, yX8_hold, "ShadeCards") (by decide +kernel)) (F.1.2.2.2.2 (.initialized RX8) (by decide +kernel)) (by decide +kernel) ⟨Nat.le_of_ble_eq_true rfl, Nat.le_of_ble_eq_true rfl⟩, F.1.2.2.2.2 (.static yX8_hold) (by decide +kernel), trivial⟩ rfl rfl rfl (Nat.le_of_ble_eq_true rfl) dX4_readingFor_35 ⟨Nat.le_of_ble_eq_true rfl, Nat.le_of_ble_eq_true rfl⟩ (g_det ?_)
      exact K _ _ _ _ dX4_readingFor_38 rfl ⟨by simp [rdC, *], rfl⟩
  · refine g_iload_n F dX4_readingFor_5 rfl 1 rfl ?_
    refine g_iconst F (v := 2) dX4_readingFor_6 (by decide) ?_
    refine g_icmp_gt F 12 dX4_readingFor_7 (by decide) (fun h2 => ?_) (fun h2 => ?_)
    · refine g_aload_n F dX4_readingFor_12 rfl 0 rfl ?_
      refine gg4_tiredness F iX4_readingFor_4 hr (by decide +kernel) dX4_readingFor_13 ?_
      refine g_bipush F (v := 12) dX4_readingFor_16 (by decide +kernel) ?_
      refine g_icmp_lt F 25 dX4_readingFor_18 (by decide) (fun h3 => ?_) (fun h3 => ?_)
      · refine g_iconst F (v := 0) dX4_readingFor_25 (by decide) ?_
        refine g_istore_n F (lv2 := [(3, _), (0, _), (1, _), (2, _)]) dX4_readingFor_26 rfl (by decide) rfl ?_
        refine g_iload_n F dX4_readingFor_27 rfl 2 rfl ?_
        refine g_aload_n F dX4_readingFor_28 rfl 1 rfl ?_
        refine gg4_bias F iX4_readingFor_4 hr (by decide +kernel) dX4_readingFor_29 ?_
        refine g_iadd F dX4_readingFor_32 ?_
        refine g_iload_n F dX4_readingFor_33 rfl 0 rfl ?_
        refine g_isub F dX4_readingFor_34 ?_
        refine g_callSN F (kX8_hold l _) ⟨va_cnB 1 F.1.2.2.2.2 gX4_readingFor_X8_hold_n27 rfl rfl rfl (F.2.2.2.1.1 (RX4, 27, yX8_hold, "ShadeCards") (by decide +kernel)) (F.1.2.2.2.2 (.initialized RX8) (by decide +kernel)) (by decide +kernel) ⟨Nat.le_of_ble_eq_true rfl, Nat.le_of_ble_eq_true rfl⟩, F.1.2.2.2.2 (.static yX8_hold) (by decide +kernel), trivial⟩ rfl rfl rfl (Nat.le_of_ble_eq_true rfl) dX4_readingFor_35 ⟨Nat.le_of_ble_eq_true rfl, Nat.le_of_ble_eq_true rfl⟩ (g_det ?_)
        exact K _ _ _ _ dX4_readingFor_38 rfl ⟨by simp [rdC, *], rfl⟩
      · refine g_iconst F (v := 1) dX4_readingFor_21 (by decide) ?_
        refine g_goto F 26 dX4_readingFor_22 (by decide) ?_
        refine g_istore_n F (lv2 := [(3, _), (0, _), (1, _), (2, _)]) dX4_readingFor_26 rfl (by decide) rfl ?_
        refine g_iload_n F dX4_readingFor_27 rfl 2 rfl ?_
        refine g_aload_n F dX4_readingFor_28 rfl 1 rfl ?_
        refine gg4_bias F iX4_readingFor_4 hr (by decide +kernel) dX4_readingFor_29 ?_
        refine g_iadd F dX4_readingFor_32 ?_
        refine g_iload_n F dX4_readingFor_33 rfl 0 rfl ?_
        refine g_isub F dX4_readingFor_34 ?_
        refine g_callSN F (kX8_hold l _) ⟨va_cnB 1 F.1.2.2.2.2 gX4_readingFor_X8_hold_n27 rfl rfl rfl (F.2.2.2.1.1 (RX4, 27, yX8_hold, "ShadeCards") (by decide +kernel)) (F.1.2.2.2.2 (.initialized RX8) (by decide +kernel)) (by decide +kernel) ⟨Nat.le_of_ble_eq_true rfl, Nat.le_of_ble_eq_true rfl⟩, F.1.2.2.2.2 (.static yX8_hold) (by decide +kernel), trivial⟩ rfl rfl rfl (Nat.le_of_ble_eq_true rfl) dX4_readingFor_35 ⟨Nat.le_of_ble_eq_true rfl, Nat.le_of_ble_eq_true rfl⟩ (g_det ?_)
        exact K _ _ _ _ dX4_readingFor_38 rfl ⟨by simp [rdC, *], rfl⟩
    · refine g_iconst F (v := 0) dX4_readingFor_10 (by decide) ?_
      exact K _ _ _ _ dX4_readingFor_11 rfl ⟨by simp [rdC, *], rfl⟩

def ctC (f : Nat → Int32) (x y : Int32) : Nat → Int32 := upd (upd f 3 (f 3 + absI (x - y))) 4 (f 4 + 1)

abbrev rmX4_countReading : Room := { frames := 1, cells := 0, slots := 0, locals := 21 }
theorem iX4_countReading_4 : ∀ w ∈ u_ws RX4 TX4 5, w ∈ wsX4_countReading := by decide +kernel
set_option maxHeartbeats 4000000 in
set_option maxRecDepth 100000 in
theorem kX4_countReading (l : Launch) {M : Mm} {r : Nat} (hr : isR 4 r) (x y : Int32) : Ct l yX4_countReading wsX4_countReading rmX4_countReading (fun B => [.ref (B + r), .int x, .int y]) M (fun _ v u => v = none ∧ u = va_up M r (ctC (M r) x y)) := by
  refine Ct.ofV (own := RX4) (by decide +kernel) rfl rfl (fun B => Nat.le_of_ble_eq_true rfl) ?_
  intro pp ee ss mm aa bb me c9 DD ca B Tl AA QQ F K
  show G pp l ee rmX4_countReading ss mm aa bb me c9 QQ DD ca B Tl AA 3 0 0 M 0 [(0, .ref (B + r)), (1, .int x), (2, .int y)] []
  refine g_aload_n F dX4_countReading_0 rfl 0 rfl ?_
  refine g_dup F dX4_countReading_1 rfl ?_
  refine gg4_errors F iX4_countReading_4 hr (by decide +kernel) dX4_countReading_2 ?_
  refine g_iload_n F dX4_countReading_5 rfl 1 rfl ?_
  refine g_iload_n F dX4_countReading_6 rfl 2 rfl ?_
  refine g_isub F dX4_countReading_7 ?_
  refine g_mabs F (by decide +kernel) (by decide +kernel) (by decide +kernel) (by decide +kernel) (Nat.le_of_ble_eq_true rfl) (Nat.le_of_ble_eq_true rfl) (Nat.zero_le _) (Nat.zero_le _) dX4_countReading_8 ?_
  refine g_iadd F dX4_countReading_11 ?_
  refine gp4_errors F iX4_countReading_4 hr (by decide +kernel) dX4_countReading_12 ?_
  try simp only [bx_uu, va_up_self]
  refine g_aload_n F dX4_countReading_15 rfl 0 rfl ?_
  refine g_dup F dX4_countReading_16 rfl ?_
  refine gg4_readCount F iX4_countReading_4 hr (by decide +kernel) dX4_countReading_17 ?_
  refine g_iconst F (v := 1) dX4_countReading_20 (by decide) ?_
  refine g_iadd F dX4_countReading_21 ?_
  refine gp4_readCount F iX4_countReading_4 hr (by decide +kernel) dX4_countReading_22 ?_
  try simp only [bx_uu, va_up_self]
  exact K _ _ _ dX4_countReading_25 ⟨rfl, rfl⟩

def tiC (f : Nat → Int32) : Nat → Int32 := upd f 2 (if f 0 = -1 then 0 else f 2 + 1)

abbrev rmX4_tire : Room := { frames := 0, cells := 0, slots := 0, locals := 0 }
theorem iX4_tire_4 : ∀ w ∈ u_ws RX4 TX4 5, w ∈ wsX4_tire := by decide +kernel
set_option maxHeartbeats 4000000 in
set_option maxRecDepth 100000 in
theorem kX4_tire (l : Launch) {M : Mm} {r : Nat} (hr : isR 4 r) : Ct l yX4_tire wsX4_tire rmX4_tire (fun B => [.ref (B + r)]) M (fun _ v u => v = none ∧ u = va_up M r (tiC (M r))) := by
  refine Ct.ofV (own := RX4) (by decide +kernel) rfl rfl (fun B => Nat.le_of_ble_eq_true rfl) ?_
  intro pp ee ss mm aa bb me c9 DD ca B Tl AA QQ F K
  show G pp l ee rmX4_tire ss mm aa bb me c9 QQ DD ca B Tl AA 1 0 0 M 0 [(0, .ref (B + r))] []
  refine g_aload_n F dX4_tire_0 rfl 0 rfl ?_
  refine g_aload_n F dX4_tire_1 rfl 0 rfl ?_
  refine gg4_watched F iX4_tire_4 hr (by decide +kernel) dX4_tire_2 ?_
  refine g_iconst F (v := -1) dX4_tire_5 (by decide) ?_
  refine g_icmp_ne F 13 dX4_tire_6 (by decide) (fun h1 => ?_) (fun h1 => ?_)
  · refine g_aload_n F dX4_tire_13 rfl 0 rfl ?_
    refine gg4_tiredness F iX4_tire_4 hr (by decide +kernel) dX4_tire_14 ?_
    refine g_iconst F (v := 1) dX4_tire_17 (by decide) ?_
    refine g_iadd F dX4_tire_18 ?_
    refine gp4_tiredness F iX4_tire_4 hr (by decide +kernel) dX4_tire_19 ?_
    exact K _ _ _ dX4_tire_22 ⟨rfl, by simp [tiC, *]⟩
  · refine g_iconst F (v := 0) dX4_tire_9 (by decide) ?_
    refine g_goto F 19 dX4_tire_10 (by decide) ?_
    refine gp4_tiredness F iX4_tire_4 hr (by decide +kernel) dX4_tire_19 ?_
    exact K _ _ _ dX4_tire_22 ⟨rfl, by simp [tiC, *]⟩

theorem lg_ge {x y : Int64} : 0 ≤ lg_cmp x y ↔ ¬ x < y := by
  unfold lg_cmp
  by_cases h1 : y < x
  · simp [h1, Int64.lt_asymm h1]
  · by_cases h2 : x = y
    · subst h2; simp
    · have h3 : x < y := Int64.lt_of_le_of_ne (Int64.not_lt.mp h1) h2
      simp [h1, h2, h3]

