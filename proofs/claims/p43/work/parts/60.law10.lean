/-! call and sets -/
theorem VA_0 {κ : Nat} {x y : Int32} {n : Nat} (h : VA κ x y n) (k : κ = 0) : (∃ c, c < 8 ∧ x = nI c) ∧ ∃ d, d ≤ 9 ∧ y = nI d := by
  subst k; rcases h with h | h | h | h | h | h <;> first | exact h.2 | exact absurd h.1 (by decide)
theorem VA_1 {κ : Nat} {x y : Int32} {n : Nat} (h : VA κ x y n) (k : κ = 1) : (∃ c, c < 24 ∧ x = nI c) ∧ ∃ d, d ≤ 4 ∧ y = nI d := by
  subst k; rcases h with h | h | h | h | h | h <;> first | exact absurd h.1 (by decide) | exact h.2
theorem VA_2 {κ : Nat} {x y : Int32} {n : Nat} (h : VA κ x y n) (k : κ = 2) : (∃ c, c < 3 ∧ x = nI c) ∧ (y = -1 ∨ ∃ d, d < 8 ∧ y = nI d) := by
  subst k; rcases h with h | h | h | h | h | h <;> first | exact absurd h.1 (by decide) | exact h.2
theorem VA_3 {κ : Nat} {x y : Int32} {n : Nat} (h : VA κ x y n) (k : κ = 3) : (∃ c, c < 3 ∧ x = nI c) ∧ ∃ d, d ≤ 2 ∧ y = nI d - 1 := by
  subst k; rcases h with h | h | h | h | h | h <;> first | exact absurd h.1 (by decide) | exact h.2
theorem VA_4 {κ : Nat} {x y : Int32} {n : Nat} (h : VA κ x y n) (k : κ = 4) : (∃ c, 1 ≤ c ∧ c ≤ 5 ∧ x = nI c) ∧ ∃ d, 1 ≤ d ∧ d ≤ 8 ∧ y = nI d := by
  subst k; rcases h with h | h | h | h | h | h <;> first | exact absurd h.1 (by decide) | exact h.2
theorem VA_5 {κ : Nat} {x y : Int32} {n : Nat} (h : VA κ x y n) (k : κ = 5) : ∃ e, e ≤ n ∧ x = nI e := by
  subst k; rcases h with h | h | h | h | h | h <;> first | exact absurd h.1 (by decide) | exact h.2
theorem VA_k {κ : Nat} {x y : Int32} {n : Nat} (h : VA κ x y n) : κ = 0 ∨ κ = 1 ∨ κ = 2 ∨ κ = 3 ∨ κ = 4 ∨ κ = 5 := by
  rcases h with h | h | h | h | h | h <;> (have := h.1; omega)
theorem CP_int {κ : Nat} {x y : Int32} {zz : Nat} {M u : Mm} {f : Nat → Int32} {t n h B : Nat} {v : Option Value} (q : CP κ x y zz M f t n h B v u) : ∃ r9, v = some (.int r9) := by
  rcases q with ⟨r0, f2, p2, e, -⟩ | ⟨r0, e, -⟩ <;> exact ⟨_, e⟩
theorem LAW_set {c g q r m w f c2 g2 q2 w2 f2 : Nat → Int32} {t n : Nat} (ht : t < 96) (L : LAW c g q r m w f t n) (hC : LC c2 f2) (hG : LG g2 f2) (hQ : LQ q2 f2) (hE : ∀ e, e < 3 → q2 (9 + e) = f2 (65 + e)) (hH : q2 15 = f2 71 ∧ q2 16 = f2 72 ∧ q2 17 = f2 73 ∧ q2 18 = f2 74 ∧ q2 19 = f2 75) (hN : LNn w2 f2 n) (hg : ∀ j, 24 ≤ j → g2 j = g j) (hf : ∀ j, 172 ≤ j → f2 j = f j) : LAW c2 g2 q2 r m w2 f2 t n := by
  obtain ⟨-, -, l3, -, -, -, l7, l8, -⟩ := L
  exact ⟨hC, hG, fun s h1 h2 => by rw [hg _ (by omega), hf _ (by omega)]; exact l3 s h1 h2, hQ, hE, hH, fun d hd s h1 h2 => by rw [hf _ (by omega)]; exact l7 d hd s h1 h2, fun d hd y hy => by rw [l8 d hd y hy]; exact congrArg nI (pkM_congr _ _ (fun j hj => hf _ (by omega))).symm, hN⟩
theorem LC_up {c f : Nat → Int32} {j k : Nat} {x : Int32} (h : LC c f) (e : j = k) : LC (upd c j x) (upd f k x) := fun i hi => by
  subst e
  by_cases h2 : i = j
  · rw [h2, upd_at, upd_at]
  · rw [upd_ne _ _ h2, upd_ne _ _ h2]; exact h i hi
theorem LNn_of {w f f2 : Nat → Int32} {n : Nat} (hn : n ≤ 20) (h : LNn w f n) (hf : ∀ j, 92 ≤ j ∧ j < 172 → f2 j = f j) : LNn w f2 n := fun e he => by
  obtain ⟨c, s, d, w9, b1, b2, b3, b4, b5, b6, b7, b8, b9⟩ := h e he
  exact ⟨c, s, d, w9, b1, b2, b3, b4, b5, (hf _ (by omega)).trans b6, (hf _ (by omega)).trans b7, (hf _ (by omega)).trans b8, (hf _ (by omega)).trans b9⟩
theorem LQ_of {q f q2 f2 : Nat → Int32} (h : LQ q f) (hq : ∀ j, j < 9 → q2 j = q j) (hf : ∀ j, 56 ≤ j ∧ j < 65 → f2 j = f j) : LQ q2 f2 := fun e he => by
  obtain ⟨b1, b2, b3⟩ := h e he
  rw [hq _ (by omega), hq _ (by omega), hq _ (by omega), hf _ (by omega), hf _ (by omega), hf _ (by omega)]; exact ⟨b1, b2, b3⟩
section LWS
variable {c g q r m w f : Nat → Int32} {t n : Nat}
theorem LAW_s0 {d : Nat} {y a b s : Int32} (ht : t < 96) (hn : n ≤ 20) (L : LAW c g q r m w f t n) (hd : d < 8) : LAW (upd (upd (upd (upd c d y) (8 + d) a) (16 + d) b) (24 + d) s) g q r m w (upd (upd (upd (upd f (0 + d) y) (8 + d) a) (16 + d) b) (24 + d) s) t n := by
  have o : ∀ j, 32 ≤ j → upd (upd (upd (upd f (0 + d) y) (8 + d) a) (16 + d) b) (24 + d) s j = f j := fun j hj => (upd_ne _ _ (by omega)).trans ((upd_ne _ _ (by omega)).trans ((upd_ne _ _ (by omega)).trans (upd_ne _ _ (by omega))))
  obtain ⟨l1, l2, l3, l4, l5, l6, l7, l8, l9⟩ := id L
  refine LAW_set ht L (LC_up (LC_up (LC_up (LC_up l1 (Nat.zero_add d).symm) rfl) rfl) rfl) (fun j hj => by rw [o _ (by omega)]; exact l2 j hj) (LQ_of l4 (fun _ _ => rfl) (fun j hj => o j (by omega))) (fun e he => by rw [o _ (by omega)]; exact l5 e he) ?_ (LNn_of hn l9 (fun j hj => o j (by omega))) (fun _ _ => rfl) (fun j hj => o j (by omega))
  rw [o 71 (by omega), o 72 (by omega), o 73 (by omega), o 74 (by omega), o 75 (by omega)]; exact l6
theorem LAW_s1 {d : Nat} {y : Int32} (ht : t < 96) (hn : n ≤ 20) (L : LAW c g q r m w f t n) (hd : d < 24) : LAW c (upd g d y) q r m w (upd f (32 + d) y) t n := by
  have o : ∀ j, j ≠ 32 + d → upd f (32 + d) y j = f j := fun j hj => upd_ne _ _ hj
  obtain ⟨l1, l2, l3, l4, l5, l6, l7, l8, l9⟩ := id L
  refine LAW_set ht L (fun j hj => by rw [o _ (by omega)]; exact l1 j hj) (fun j hj => ?_) (LQ_of l4 (fun _ _ => rfl) (fun j hj => o j (by omega))) (fun e he => by rw [o _ (by omega)]; exact l5 e he) ?_ (LNn_of hn l9 (fun j hj => o j (by omega))) (fun j hj => upd_ne _ _ (by omega)) (fun j hj => o j (by omega))
  · by_cases h : j = d
    · rw [h, upd_at, upd_at]
    · rw [upd_ne _ _ h, o _ (by omega)]; exact l2 j hj
  · rw [o 71 (by omega), o 72 (by omega), o 73 (by omega), o 74 (by omega), o 75 (by omega)]; exact l6
theorem LAW_s2 {d : Nat} {y : Int32} (ht : t < 96) (hn : n ≤ 20) (L : LAW c g q r m w f t n) (hd : d < 3) : LAW c g (upd q (6 + d) y) r m w (upd f (62 + d) y) t n := by
  have o : ∀ j, j ≠ 62 + d → upd f (62 + d) y j = f j := fun j hj => upd_ne _ _ hj
  have oq : ∀ j, j ≠ 6 + d → upd q (6 + d) y j = q j := fun j hj => upd_ne _ _ hj
  obtain ⟨l1, l2, l3, l4, l5, l6, l7, l8, l9⟩ := id L
  refine LAW_set ht L (fun j hj => by rw [o _ (by omega)]; exact l1 j hj) (fun j hj => by rw [o _ (by omega)]; exact l2 j hj) (fun e he => ?_) (fun e he => by rw [o _ (by omega), oq _ (by omega)]; exact l5 e he) ?_ (LNn_of hn l9 (fun j hj => o j (by omega))) (fun _ _ => rfl) (fun j hj => o j (by omega))
  · obtain ⟨b1, b2, b3⟩ := l4 e he
    refine ⟨by rw [oq _ (by omega), o _ (by omega)]; exact b1, by rw [oq _ (by omega), o _ (by omega)]; exact b2, ?_⟩
    by_cases h : e = d
    · rw [h, upd_at, upd_at]
    · rw [oq _ (by omega), o _ (by omega)]; exact b3
  · rw [o 71 (by omega), o 72 (by omega), o 73 (by omega), o 74 (by omega), o 75 (by omega), oq 15 (by omega), oq 16 (by omega), oq 17 (by omega), oq 18 (by omega), oq 19 (by omega)]; exact l6
theorem LAW_s3 {d : Nat} {y : Int32} (ht : t < 96) (hn : n ≤ 20) (L : LAW c g q r m w f t n) (hd : d < 3) : LAW c g (upd q d y) r m w (upd f (56 + d) y) t n := by
  have o : ∀ j, j ≠ 56 + d → upd f (56 + d) y j = f j := fun j hj => upd_ne _ _ hj
  have oq : ∀ j, j ≠ d → upd q d y j = q j := fun j hj => upd_ne _ _ hj
  obtain ⟨l1, l2, l3, l4, l5, l6, l7, l8, l9⟩ := id L
  refine LAW_set ht L (fun j hj => by rw [o _ (by omega)]; exact l1 j hj) (fun j hj => by rw [o _ (by omega)]; exact l2 j hj) (fun e he => ?_) (fun e he => by rw [o _ (by omega), oq _ (by omega)]; exact l5 e he) ?_ (LNn_of hn l9 (fun j hj => o j (by omega))) (fun _ _ => rfl) (fun j hj => o j (by omega))
  · obtain ⟨b1, b2, b3⟩ := l4 e he
    refine ⟨?_, by rw [oq _ (by omega), o _ (by omega)]; exact b2, by rw [oq _ (by omega), o _ (by omega)]; exact b3⟩
    by_cases h : e = d
    · rw [h, upd_at, upd_at]
    · rw [oq _ (by omega), o _ (by omega)]; exact b1
  · rw [o 71 (by omega), o 72 (by omega), o 73 (by omega), o 74 (by omega), o 75 (by omega), oq 15 (by omega), oq 16 (by omega), oq 17 (by omega), oq 18 (by omega), oq 19 (by omega)]; exact l6
theorem LAW_s4 {x y : Int32} (ht : t < 96) (hn : n ≤ 20) (L : LAW c g q r m w f t n) : LAW c g (upd (upd q 15 x) 16 y) r m w (upd (upd f 71 x) 72 y) t n := by
  have o : ∀ j, j ≠ 71 → j ≠ 72 → upd (upd f 71 x) 72 y j = f j := fun j h1 h2 => (upd_ne _ _ h2).trans (upd_ne _ _ h1)
  have oq : ∀ j, j ≠ 15 → j ≠ 16 → upd (upd q 15 x) 16 y j = q j := fun j h1 h2 => (upd_ne _ _ h2).trans (upd_ne _ _ h1)
  obtain ⟨l1, l2, l3, l4, l5, l6, l7, l8, l9⟩ := id L
  refine LAW_set ht L (fun j hj => by rw [o _ (by omega) (by omega)]; exact l1 j hj) (fun j hj => by rw [o _ (by omega) (by omega)]; exact l2 j hj) (LQ_of l4 (fun j hj => oq j (by omega) (by omega)) (fun j hj => o j (by omega) (by omega))) (fun e he => by rw [o _ (by omega) (by omega), oq _ (by omega) (by omega)]; exact l5 e he) ?_ (LNn_of hn l9 (fun j hj => o j (by omega) (by omega))) (fun _ _ => rfl) (fun j hj => o j (by omega) (by omega))
  refine ⟨?_, ?_, ?_, ?_, ?_⟩
  · rw [upd_ne _ _ (show (15 : Nat) ≠ 16 by omega), upd_at, upd_ne _ _ (show (71 : Nat) ≠ 72 by omega), upd_at]
  · rw [upd_at, upd_at]
  · rw [oq 17 (by omega) (by omega), o 73 (by omega) (by omega)]; exact l6.2.2.1
  · rw [oq 18 (by omega) (by omega), o 74 (by omega) (by omega)]; exact l6.2.2.2.1
  · rw [oq 19 (by omega) (by omega), o 75 (by omega) (by omega)]; exact l6.2.2.2.2
theorem LAW_s5 {e d s8 w8 : Nat} {v : Int32} (ht : t < 96) (hn : n ≤ 20) (he : e < n) (hd : d < 8) (hs8 : s8 ≤ 31) (hw8 : w8 ≤ 2) (L : LAW c g q r m w f t n) (e1 : f (92 + e) = nI d) (e2 : f (112 + e) = nI (10 * s8)) (e4 : f (152 + e) = nI w8) (hv : w8 < 2 ∧ v = nI (d + 8 * s8 + 256 * 0 + 1024 * w8) + 512 ∨ 2 ≤ w8 ∧ v = nI (d + 8 * s8 + 256 * 0 + 1024 * w8) + 256) : LAW c g q r m (upd w e v) (daR f e d) t n := by
  obtain ⟨l1, l2, l3, l4, l5, l6, l7, l8, l9⟩ := id L
  have o : ∀ j, j ≠ 132 + e → j ≠ 84 + d → daR f e d j = f j := fun j h1 h2 => da_o h1 h2
  refine LAW_set ht L (fun j hj => by rw [o _ (by omega) (by omega)]; exact l1 j hj) (fun j hj => by rw [o _ (by omega) (by omega)]; exact l2 j hj) (LQ_of l4 (fun _ _ => rfl) (fun j hj => o j (by omega) (by omega))) (fun e he => by rw [o _ (by omega) (by omega)]; exact l5 e he) ?_ (fun i hi => ?_) (fun _ _ => rfl) (fun j hj => o j (by omega) (by omega))
  · rw [o 71 (by omega) (by omega), o 72 (by omega) (by omega), o 73 (by omega) (by omega), o 74 (by omega) (by omega), o 75 (by omega) (by omega)]; exact l6
  · by_cases h : i = e
    · subst h
      have e9 : daR f i d (132 + i) = if f (152 + i) < 2 then 2 else 1 := da_132 (by omega) hd
      rw [e4] at e9
      rcases hv with ⟨hw, rfl⟩ | ⟨hw, rfl⟩
      · refine ⟨d, s8, 2, w8, hd, hs8, by omega, hw8, ?_, (o _ (by omega) (by omega)).trans e1, (o _ (by omega) (by omega)).trans e2, ?_, (o _ (by omega) (by omega)).trans e4⟩
        · rw [upd_at, show (512 : Int32) = nI 512 from rfl, nI_add]; exact congrArg nI (by omega)
        · rw [e9, if_pos (show nI w8 < 2 from (nI_ltI (a := w8) (b := 2) (by omega) (by omega)).mpr hw)]; rfl
      · refine ⟨d, s8, 1, w8, hd, hs8, by omega, hw8, ?_, (o _ (by omega) (by omega)).trans e1, (o _ (by omega) (by omega)).trans e2, ?_, (o _ (by omega) (by omega)).trans e4⟩
        · rw [upd_at, show (256 : Int32) = nI 256 from rfl, nI_add]; exact congrArg nI (by omega)
        · rw [e9, if_neg (show ¬ nI w8 < 2 from fun z9 => by have := (nI_ltI (a := w8) (b := 2) (by omega) (by omega)).mp z9; omega)]; rfl
    · obtain ⟨c9, s9, d9, w9, b1, b2, b3, b4, b5, b6, b7, b8, b9⟩ := l9 i hi
      exact ⟨c9, s9, d9, w9, b1, b2, b3, b4, (upd_ne _ _ h).trans b5, (o _ (by omega) (by omega)).trans b6, (o _ (by omega) (by omega)).trans b7, (o _ (by omega) (by omega)).trans b8, (o _ (by omega) (by omega)).trans b9⟩
end LWS

abbrev rmL_call : Room := { frames := 9, cells := 11, slots := 66, locals := 197 }
set_option maxHeartbeats 4000000 in
set_option maxRecDepth 100000 in
theorem kL_call (l : Launch) (hls : l.stackTraces = false) {M : Mm} {κ : Nat} {x y : Int32} {zz : Nat} {f : Nat → Int32} {t p n h : Nat} (hv : RV f t p n) (hh : Rl M 1 f t n) (z : RZ f t n) (ac : AC f n) (gb : GB f) (hS : hsS (M 142)) (hh6 : h ≤ 6) (h1 : M 141 1 = nI h) (hV : VA κ x y n) (hz : zz < 200) : Ct l yL_call wsL_call rmL_call (fun B => [.ref (B + 0), .int (nI κ), .int x, .int y, .int (nI zz)]) M (CP κ x y zz M f t n h) := by
  refine Ct.ofI (own := RL) (by decide +kernel) rfl rfl (fun B => Nat.le_of_ble_eq_true rfl) ?_
  intro pp ee ss mm aa bb me c9 DD ca B Tl AA QQ F K
  show G pp l ee rmL_call ss mm aa bb me c9 QQ DD ca B Tl AA 5 0 0 M 0 [(0, .ref (B + 0)), (1, .int (nI κ)), (2, .int x), (3, .int y), (4, .int (nI zz))] []
  refine g_iload_n F dL_call_0 rfl 1 rfl ?_
  rcases VA_k hV with hk0 | hk1 | hk2 | hk3 | hk4 | hk5
  · refine g_tableIn F (off := 35) 36 dL_call_1 (by rw [hk0]; decide +kernel) (by rw [hk0]; decide +kernel) (by rw [hk0]; decide +kernel) (by decide) ?_
    obtain ⟨⟨c, hc, rfl⟩, d, hd, rfl⟩ := VA_0 hV hk0
    subst hk0
    refine g_aload_n F dL_call_36 rfl 0 rfl ?_
    refine g_iload_n F dL_call_37 rfl 2 rfl ?_
    refine g_iload_n F dL_call_38 rfl 3 rfl ?_
    refine g_iload F dL_call_39 4 rfl ?_
    refine g_iconst F (v := 3) dL_call_41 (by decide) ?_
    refine g_irem F dL_call_42 (by decide) ?_
    refine g_top (pk_rem (a := zz) (d := 3) (by omega) (by omega) (by omega)) ?_
    refine g_iconst F (v := 2) dL_call_43 (by decide) ?_
    refine g_iload F dL_call_44 4 rfl ?_
    refine g_bipush F (v := 11) dL_call_46 (by decide +kernel) ?_
    refine g_irem F dL_call_48 (by decide) ?_
    refine g_top (pk_rem (a := zz) (d := 11) (by omega) (by omega) (by omega)) ?_
    refine g_iadd F dL_call_49 ?_
    refine g_top (nI_add (2) ((zz % 11))) ?_
    refine g_iload F dL_call_50 4 rfl ?_
    refine g_bipush F (v := 12) dL_call_52 (by decide +kernel) ?_
    refine g_irem F dL_call_54 (by decide) ?_
    refine g_top (pk_rem (a := zz) (d := 12) (by omega) (by omega) (by omega)) ?_
    refine g_callSW F (B_setChimney l hls hv hh z ac gb hS hh6 h1 (c := c) (d := d) zz hc hd) (vx_cwSW 6 F.1.2.2.2.2 gL_call_L_setChimney rfl rfl rfl (by decide +kernel) ⟨Nat.le_of_ble_eq_true rfl, Nat.le_of_ble_eq_true rfl⟩) rfl rfl rfl (Nat.le_of_ble_eq_true rfl) dL_call_55 ⟨Nat.le_of_ble_eq_true rfl, Nat.le_of_ble_eq_true rfl⟩ (fun v9 u9 h9 => ?_)
    obtain ⟨r9, rfl⟩ := CP_int h9
    refine g_widen (k := rmL_call.cells) (n := rmL_call.slots) (Nat.le_of_ble_eq_true rfl) (Nat.le_of_ble_eq_true rfl) ?_
    exact K _ _ _ _ dL_call_58 rfl h9
  · refine g_tableIn F (off := 58) 59 dL_call_1 (by rw [hk1]; decide +kernel) (by rw [hk1]; decide +kernel) (by rw [hk1]; decide +kernel) (by decide) ?_
    obtain ⟨⟨c, hc, rfl⟩, d, hd, rfl⟩ := VA_1 hV hk1
    subst hk1
    refine g_aload_n F dL_call_59 rfl 0 rfl ?_
    refine g_iload_n F dL_call_60 rfl 2 rfl ?_
    refine g_iload_n F dL_call_61 rfl 3 rfl ?_
    refine g_callSW F (B_setGrey l hls hv hh z ac gb hS hh6 h1 (c := c) (d := d) zz hc hd) (vx_cwSW 3 F.1.2.2.2.2 gL_call_L_setGrey rfl rfl rfl (by decide +kernel) ⟨Nat.le_of_ble_eq_true rfl, Nat.le_of_ble_eq_true rfl⟩) rfl rfl rfl (Nat.le_of_ble_eq_true rfl) dL_call_62 ⟨Nat.le_of_ble_eq_true rfl, Nat.le_of_ble_eq_true rfl⟩ (fun v9 u9 h9 => ?_)
    obtain ⟨r9, rfl⟩ := CP_int h9
    refine g_widen (k := rmL_call.cells) (n := rmL_call.slots) (Nat.le_of_ble_eq_true rfl) (Nat.le_of_ble_eq_true rfl) ?_
    exact K _ _ _ _ dL_call_65 rfl h9
  · refine g_tableIn F (off := 65) 66 dL_call_1 (by rw [hk2]; decide +kernel) (by rw [hk2]; decide +kernel) (by rw [hk2]; decide +kernel) (by decide) ?_
    obtain ⟨⟨c, hc, rfl⟩, hd⟩ := VA_2 hV hk2
    subst hk2
    refine g_aload_n F dL_call_66 rfl 0 rfl ?_
    refine g_iload_n F dL_call_67 rfl 2 rfl ?_
    refine g_iload_n F dL_call_68 rfl 3 rfl ?_
    refine g_callSW F (B_watch l hls hv hh z ac gb hS hh6 h1 (c := c) zz hc hd) (vx_cwSW 3 F.1.2.2.2.2 gL_call_L_watch rfl rfl rfl (by decide +kernel) ⟨Nat.le_of_ble_eq_true rfl, Nat.le_of_ble_eq_true rfl⟩) rfl rfl rfl (Nat.le_of_ble_eq_true rfl) dL_call_69 ⟨Nat.le_of_ble_eq_true rfl, Nat.le_of_ble_eq_true rfl⟩ (fun v9 u9 h9 => ?_)
    obtain ⟨r9, rfl⟩ := CP_int h9
    refine g_widen (k := rmL_call.cells) (n := rmL_call.slots) (Nat.le_of_ble_eq_true rfl) (Nat.le_of_ble_eq_true rfl) ?_
    exact K _ _ _ _ dL_call_72 rfl h9
  · refine g_tableIn F (off := 72) 73 dL_call_1 (by rw [hk3]; decide +kernel) (by rw [hk3]; decide +kernel) (by rw [hk3]; decide +kernel) (by decide) ?_
    obtain ⟨⟨c, hc, rfl⟩, d, hd, rfl⟩ := VA_3 hV hk3
    subst hk3
    refine g_aload_n F dL_call_73 rfl 0 rfl ?_
    refine g_iload_n F dL_call_74 rfl 2 rfl ?_
    refine g_iload_n F dL_call_75 rfl 3 rfl ?_
    refine g_callSW F (B_setBias l hls hv hh z ac gb hS hh6 h1 (c := c) (d := d) zz hc hd) (vx_cwSW 3 F.1.2.2.2.2 gL_call_L_setBias rfl rfl rfl (by decide +kernel) ⟨Nat.le_of_ble_eq_true rfl, Nat.le_of_ble_eq_true rfl⟩) rfl rfl rfl (Nat.le_of_ble_eq_true rfl) dL_call_76 ⟨Nat.le_of_ble_eq_true rfl, Nat.le_of_ble_eq_true rfl⟩ (fun v9 u9 h9 => ?_)
    obtain ⟨r9, rfl⟩ := CP_int h9
    refine g_widen (k := rmL_call.cells) (n := rmL_call.slots) (Nat.le_of_ble_eq_true rfl) (Nat.le_of_ble_eq_true rfl) ?_
    exact K _ _ _ _ dL_call_79 rfl h9
  · refine g_tableIn F (off := 79) 80 dL_call_1 (by rw [hk4]; decide +kernel) (by rw [hk4]; decide +kernel) (by rw [hk4]; decide +kernel) (by decide) ?_
    obtain ⟨⟨c, hc, hc5, rfl⟩, d, hd, hd8, rfl⟩ := VA_4 hV hk4
    subst hk4
    refine g_aload_n F dL_call_80 rfl 0 rfl ?_
    refine g_iload_n F dL_call_81 rfl 2 rfl ?_
    refine g_iload_n F dL_call_82 rfl 3 rfl ?_
    refine g_callSW F (B_setLimit l hls hv hh z ac gb hS hh6 h1 (c := c) (d := d) zz hc hc5 hd hd8) (vx_cwSW 3 F.1.2.2.2.2 gL_call_L_setLimit rfl rfl rfl (by decide +kernel) ⟨Nat.le_of_ble_eq_true rfl, Nat.le_of_ble_eq_true rfl⟩) rfl rfl rfl (Nat.le_of_ble_eq_true rfl) dL_call_83 ⟨Nat.le_of_ble_eq_true rfl, Nat.le_of_ble_eq_true rfl⟩ (fun v9 u9 h9 => ?_)
    obtain ⟨r9, rfl⟩ := CP_int h9
    refine g_widen (k := rmL_call.cells) (n := rmL_call.slots) (Nat.le_of_ble_eq_true rfl) (Nat.le_of_ble_eq_true rfl) ?_
    exact K _ _ _ _ dL_call_86 rfl h9
  · refine g_tableOut F 87 dL_call_1 (by rw [hk5]; decide +kernel) (by decide) ?_
    obtain ⟨e0, he, rfl⟩ := VA_5 hV hk5
    subst hk5
    refine g_aload_n F dL_call_87 rfl 0 rfl ?_
    refine g_iload_n F dL_call_88 rfl 2 rfl ?_
    refine g_callSW F (B_appeal l hls hv hh z ac gb hS hh6 h1 (e0 := e0) y zz he) (vx_cwSW 2 F.1.2.2.2.2 gL_call_L_appeal rfl rfl rfl (by decide +kernel) ⟨Nat.le_of_ble_eq_true rfl, Nat.le_of_ble_eq_true rfl⟩) rfl rfl rfl (Nat.le_of_ble_eq_true rfl) dL_call_89 ⟨Nat.le_of_ble_eq_true rfl, Nat.le_of_ble_eq_true rfl⟩ (fun v9 u9 h9 => ?_)
    obtain ⟨r9, rfl⟩ := CP_int h9
    refine g_widen (k := rmL_call.cells) (n := rmL_call.slots) (Nat.le_of_ble_eq_true rfl) (Nat.le_of_ble_eq_true rfl) ?_
    exact K _ _ _ _ dL_call_92 rfl h9

theorem daB_y {f : Nat → Int32} {e w : Nat} (e4 : f (152 + e) = nI w) (h : w < 2) : daB f e = 1 := by unfold daB; rw [e4]; exact if_pos ((nI_ltI (a := w) (b := 2) (by omega) (by omega)).mpr h)
theorem daB_n {f : Nat → Int32} {e w : Nat} (e4 : f (152 + e) = nI w) (h : 2 ≤ w) (hw : w ≤ 2) : daB f e = 0 := by unfold daB; rw [e4]; exact if_neg (fun z9 => by have := (nI_ltI (a := w) (b := 2) (by omega) (by omega)).mp z9; omega)
theorem d0_of {x : Int32} {d : Nat} (e3 : x = nI d) (h : nI d ≤ 0) (hd : d ≤ 2) : x = 0 := by
  rw [e3]
  rcases (show d = 0 ∨ d = 1 ∨ d = 2 by omega) with rfl | rfl | rfl
  · rfl
  · exact absurd h (by decide)
  · exact absurd h (by decide)

abbrev rmL_sets : Room := { frames := 1, cells := 0, slots := 0, locals := 24 }
set_option maxHeartbeats 4000000 in
set_option maxRecDepth 100000 in
theorem kL_sets (l : Launch) {M : Mm} {c g q r m w f f2 : Nat → Int32} {κ zz t p n : Nat} {x y r0 : Int32} (hv : RV f t p n) (L : LAW c g q r m w f t n) (hz : zz < 200) (hO : CH κ x y zz f t n r0 f2 ∧ RZ f2 t n ∨ RF κ x f n r0 ∧ f2 = f) : Ct l yL_sets wsL_sets rmL_sets (fun B => [.int (nI κ), .int x, .int y, .int (nI zz), .ref (B + 709), .ref (B + 710), .ref (B + 711), .ref (B + 714)]) (lwM M c g q r m w) (fun _ v u => v = some (.int r0) ∧ ∃ c2 g2 q2 w2, u = lwM M c2 g2 q2 r m w2 ∧ LAW c2 g2 q2 r m w2 f2 t n) := by
  refine Ct.ofI (own := RL) (by decide +kernel) rfl rfl (fun B => Nat.le_of_ble_eq_true rfl) ?_
  intro pp ee ss mm aa bb me c9 DD ca B Tl AA QQ F K
  show G pp l ee rmL_sets ss mm aa bb me c9 QQ DD ca B Tl AA 10 0 0 (lwM M c g q r m w) 0 [(0, .int (nI κ)), (1, .int x), (2, .int y), (3, .int (nI zz)), (4, .ref (B + 709)), (5, .ref (B + 710)), (6, .ref (B + 711)), (7, .ref (B + 714))] []
  obtain ⟨hC, hG, hK, hQ, hE, ⟨g15, g16, g17, g18f, g19⟩, hR, hM9, hN⟩ := id L
  have g74 := hv.2.1
  have ht := hv.1
  have hn := hv.2.2.2.2.2.1
  have g18 : q 18 = nI t := g18f.trans g74
  have g19n : q 19 = nI n := g19.trans hv.2.2.2.2.2.2.1
  rcases hO with ⟨⟨rfl, cc, hcc, rfl, rfl, rfl⟩ | ⟨rfl, cc, hcc, rfl, rfl, rfl⟩ | ⟨rfl, cc, hcc, rfl, rfl, rfl⟩ | ⟨rfl, cc, hcc, rfl, rfl, rfl⟩ | ⟨rfl, rfl, rfl⟩ | ⟨rfl, ee9, cc, hee, hcc, rfl, h0, e92, rfl, rfl⟩, z2⟩ | ⟨⟨rfl, ⟨rfl, rfl⟩ | ⟨ee9, hee, rfl, h0, rfl⟩⟩, rfl⟩
  · have hL0 := LAW_s0 (y := y) (a := nI (zz % 3)) (b := nI (2 + zz % 11)) (s := nI (zz % 12)) ht hn L hcc
    refine g_iload_n F dL_sets_0 rfl 0 rfl ?_
    refine g_if_ne F 55 dL_sets_1 (by decide) (fun h1 => ?_) (fun h1 => ?_)
    · exact absurd h1 (by decide)
    · refine g_aload F dL_sets_4 4 rfl ?_
      refine g_iload_n F dL_sets_6 rfl 1 rfl ?_
      refine g_iload_n F dL_sets_7 rfl 2 rfl ?_
      refine g_iastore (r := 709) F a709 (cc) rfl (by omega) (by decide) dL_sets_8 ?_
      refine g_mem (lwS_709 _ _ _ _ _ _ _ _ _) ?_
      refine g_aload F dL_sets_9 4 rfl ?_
      refine g_bipush F (v := 8) dL_sets_11 (by decide +kernel) ?_
      refine g_iload_n F dL_sets_13 rfl 1 rfl ?_
      refine g_iadd F dL_sets_14 ?_
      refine g_top (nI_add (8) (cc)) ?_
      refine g_iload_n F dL_sets_15 rfl 3 rfl ?_
      refine g_iconst F (v := 3) dL_sets_16 (by decide) ?_
      refine g_irem F dL_sets_17 (by decide) ?_
      refine g_top (pk_rem (a := zz) (d := 3) (by omega) (by omega) (by omega)) ?_
      refine g_iastore (r := 709) F a709 ((8 + cc)) rfl (by omega) (by decide) dL_sets_18 ?_
      refine g_mem (lwS_709 _ _ _ _ _ _ _ _ _) ?_
      refine g_aload F dL_sets_19 4 rfl ?_
      refine g_bipush F (v := 16) dL_sets_21 (by decide +kernel) ?_
      refine g_iload_n F dL_sets_23 rfl 1 rfl ?_
      refine g_iadd F dL_sets_24 ?_
      refine g_top (nI_add (16) (cc)) ?_
      refine g_iconst F (v := 2) dL_sets_25 (by decide) ?_
      refine g_iload_n F dL_sets_26 rfl 3 rfl ?_
      refine g_bipush F (v := 11) dL_sets_27 (by decide +kernel) ?_
      refine g_irem F dL_sets_29 (by decide) ?_
      refine g_top (pk_rem (a := zz) (d := 11) (by omega) (by omega) (by omega)) ?_
      refine g_iadd F dL_sets_30 ?_
      refine g_top (nI_add (2) ((zz % 11))) ?_
      refine g_iastore (r := 709) F a709 ((16 + cc)) rfl (by omega) (by decide) dL_sets_31 ?_
      refine g_mem (lwS_709 _ _ _ _ _ _ _ _ _) ?_
      refine g_aload F dL_sets_32 4 rfl ?_
      refine g_bipush F (v := 24) dL_sets_34 (by decide +kernel) ?_
      refine g_iload_n F dL_sets_36 rfl 1 rfl ?_
      refine g_iadd F dL_sets_37 ?_
      refine g_top (nI_add (24) (cc)) ?_
      refine g_iload_n F dL_sets_38 rfl 3 rfl ?_
      refine g_bipush F (v := 12) dL_sets_39 (by decide +kernel) ?_
      refine g_irem F dL_sets_41 (by decide) ?_
      refine g_top (pk_rem (a := zz) (d := 12) (by omega) (by omega) (by omega)) ?_
      refine g_iastore (r := 709) F a709 ((24 + cc)) rfl (by omega) (by decide) dL_sets_42 ?_
      refine g_mem (lwS_709 _ _ _ _ _ _ _ _ _) ?_
      refine g_iload_n F dL_sets_43 rfl 1 rfl ?_
      refine g_aload F dL_sets_44 6 rfl ?_
      refine g_bipush F (v := 18) dL_sets_46 (by decide +kernel) ?_
      refine g_iaload (r := 711) F a711 (18) rfl (by omega) (by decide) dL_sets_48 ?_
      refine g_top (y := nI t) g18 ?_
      refine g_aload F dL_sets_49 4 rfl ?_
      refine g_callS F (kL_shade l (f := _) (k := cc) (t := t) hL0.1 z2.2.1 hcc ht) (va_cwS 3 F.1.2.2.2.2 gL_sets_L_shade rfl rfl rfl (by decide +kernel) ⟨Nat.le_of_ble_eq_true rfl, Nat.le_of_ble_eq_true rfl⟩) rfl rfl rfl (Nat.le_of_ble_eq_true rfl) dL_sets_51 ⟨Nat.le_of_ble_eq_true rfl, Nat.le_of_ble_eq_true rfl⟩ (g_det ?_)
      exact K _ _ _ _ dL_sets_54 rfl ⟨rfl, _, _, _, _, rfl, hL0⟩
  · refine g_iload_n F dL_sets_0 rfl 0 rfl ?_
    refine g_if_ne F 55 dL_sets_1 (by decide) (fun h2 => ?_) (fun h2 => ?_)
    · refine g_iload_n F dL_sets_55 rfl 0 rfl ?_
      refine g_iconst F (v := 1) dL_sets_56 (by decide) ?_
      refine g_icmpN_ne F 74 dL_sets_57 (by decide) (1) (1) rfl rfl (by omega) (by omega) (fun h3 => ?_) (fun h3 => ?_)
      · exact absurd h3 (by omega)
      · refine g_aload F dL_sets_60 5 rfl ?_
        refine g_iload_n F dL_sets_62 rfl 1 rfl ?_
        refine g_iaload (r := 710) F a710 (cc) rfl (by omega) (by decide) dL_sets_63 ?_
        refine g_top (y := f (32 + cc)) (hG cc hcc) ?_
        refine g_istore F (lv2 := [(8, _), (0, _), (1, _), (2, _), (3, _), (4, _), (5, _), (6, _), (7, _)]) dL_sets_64 (by decide) rfl ?_
        refine g_aload F dL_sets_66 6 rfl ?_
        refine g_iload_n F dL_sets_68 rfl 2 rfl ?_
        refine g_iload_n F dL_sets_69 rfl 3 rfl ?_
        refine g_iastore (r := 710) F a710 (cc) rfl (by omega) (by decide) dL_sets_70 ?_
        refine g_mem (lwS_710 _ _ _ _ _ _ _ _ _) ?_
        refine g_iload F dL_sets_71 0 rfl ?_
        exact K _ _ _ _ dL_sets_73 rfl ⟨rfl, _, _, _, _, rfl, LAW_s1 ht hn L hcc⟩
    · exact absurd h2 (by decide)
  · refine g_iload_n F dL_sets_0 rfl 0 rfl ?_
    refine g_if_ne F 55 dL_sets_1 (by decide) (fun h4 => ?_) (fun h4 => ?_)
    · refine g_iload_n F dL_sets_55 rfl 0 rfl ?_
      refine g_iconst F (v := 1) dL_sets_56 (by decide) ?_
      refine g_icmpN_ne F 74 dL_sets_57 (by decide) (2) (1) rfl rfl (by omega) (by omega) (fun h5 => ?_) (fun h5 => ?_)
      · refine g_iload_n F dL_sets_74 rfl 0 rfl ?_
        refine g_iconst F (v := 4) dL_sets_75 (by decide) ?_
        refine g_icmpN_ge F 121 dL_sets_76 (by decide) (2) (4) rfl rfl (by omega) (by omega) (fun h6 => ?_) (fun h6 => ?_)
        · exact absurd h6 (by omega)
        · refine g_iload_n F dL_sets_79 rfl 0 rfl ?_
          refine g_iconst F (v := 2) dL_sets_80 (by decide) ?_
          refine g_icmpN_ne F 91 dL_sets_81 (by decide) (2) (2) rfl rfl (by omega) (by omega) (fun h7 => ?_) (fun h7 => ?_)
          · exact absurd h7 (by omega)
          · refine g_bipush F (v := 6) dL_sets_84 (by decide +kernel) ?_
            refine g_iload_n F dL_sets_86 rfl 1 rfl ?_
            refine g_iadd F dL_sets_87 ?_
            refine g_top (nI_add (6) (cc)) ?_
            refine g_goto F 92 dL_sets_88 (by decide) ?_
            refine g_istore F (lv2 := [(8, _), (0, _), (1, _), (2, _), (3, _), (4, _), (5, _), (6, _), (7, _)]) dL_sets_92 (by decide) rfl ?_
            refine g_aload F dL_sets_94 7 rfl ?_
            refine g_iload F dL_sets_96 0 rfl ?_
            refine g_iaload (r := 711) F a711 ((6 + cc)) rfl (by omega) (by decide) dL_sets_98 ?_
            refine g_top (y := f (62 + cc)) (hQ cc hcc).2.2 ?_
            refine g_iload_n F dL_sets_99 rfl 1 rfl ?_
            refine g_iconst F (v := 3) dL_sets_100 (by decide) ?_
            refine g_icmpN_ne F 108 dL_sets_101 (by decide) (2) (3) rfl rfl (by omega) (by omega) (fun h8 => ?_) (fun h8 => ?_)
            · refine g_iconst F (v := 0) dL_sets_108 (by decide) ?_
              refine g_iadd F dL_sets_109 ?_
              refine g_top (Int32.add_zero _) ?_
              refine g_istore F (lv2 := [(9, _), (8, _), (0, _), (1, _), (2, _), (3, _), (4, _), (5, _), (6, _), (7, _)]) dL_sets_110 (by decide) rfl ?_
              refine g_aload F dL_sets_112 8 rfl ?_
              refine g_iload F dL_sets_114 1 rfl ?_
              refine g_iload_n F dL_sets_116 rfl 4 rfl ?_
              refine g_iastore (r := 711) F a711 ((6 + cc)) rfl (by omega) (by decide) dL_sets_117 ?_
              refine g_mem (lwS_711 _ _ _ _ _ _ _ _ _) ?_
              refine g_iload F dL_sets_118 0 rfl ?_
              exact K _ _ _ _ dL_sets_120 rfl ⟨rfl, _, _, _, _, rfl, LAW_s2 ht hn L hcc⟩
            · exact absurd h8 (by omega)
      · exact absurd h5 (by omega)
    · exact absurd h4 (by decide)
  · refine g_iload_n F dL_sets_0 rfl 0 rfl ?_
    refine g_if_ne F 55 dL_sets_1 (by decide) (fun h9 => ?_) (fun h9 => ?_)
    · refine g_iload_n F dL_sets_55 rfl 0 rfl ?_
      refine g_iconst F (v := 1) dL_sets_56 (by decide) ?_
      refine g_icmpN_ne F 74 dL_sets_57 (by decide) (3) (1) rfl rfl (by omega) (by omega) (fun h10 => ?_) (fun h10 => ?_)
      · refine g_iload_n F dL_sets_74 rfl 0 rfl ?_
        refine g_iconst F (v := 4) dL_sets_75 (by decide) ?_
        refine g_icmpN_ge F 121 dL_sets_76 (by decide) (3) (4) rfl rfl (by omega) (by omega) (fun h11 => ?_) (fun h11 => ?_)
        · exact absurd h11 (by omega)
        · refine g_iload_n F dL_sets_79 rfl 0 rfl ?_
          refine g_iconst F (v := 2) dL_sets_80 (by decide) ?_
          refine g_icmpN_ne F 91 dL_sets_81 (by decide) (3) (2) rfl rfl (by omega) (by omega) (fun h12 => ?_) (fun h12 => ?_)
          · refine g_iload_n F dL_sets_91 rfl 1 rfl ?_
            refine g_istore F (lv2 := [(8, _), (0, _), (1, _), (2, _), (3, _), (4, _), (5, _), (6, _), (7, _)]) dL_sets_92 (by decide) rfl ?_
            refine g_aload F dL_sets_94 7 rfl ?_
            refine g_iload F dL_sets_96 0 rfl ?_
            refine g_iaload (r := 711) F a711 (cc) rfl (by omega) (by decide) dL_sets_98 ?_
            refine g_top (y := f (56 + cc)) (hQ cc hcc).1 ?_
            refine g_iload_n F dL_sets_99 rfl 1 rfl ?_
            refine g_iconst F (v := 3) dL_sets_100 (by decide) ?_
            refine g_icmpN_ne F 108 dL_sets_101 (by decide) (3) (3) rfl rfl (by omega) (by omega) (fun h13 => ?_) (fun h13 => ?_)
            · exact absurd h13 (by omega)
            · refine g_iconst F (v := 1) dL_sets_104 (by decide) ?_
              refine g_goto F 109 dL_sets_105 (by decide) ?_
              refine g_iadd F dL_sets_109 ?_
              refine g_istore F (lv2 := [(9, _), (8, _), (0, _), (1, _), (2, _), (3, _), (4, _), (5, _), (6, _), (7, _)]) dL_sets_110 (by decide) rfl ?_
              refine g_aload F dL_sets_112 8 rfl ?_
              refine g_iload F dL_sets_114 1 rfl ?_
              refine g_iload_n F dL_sets_116 rfl 4 rfl ?_
              refine g_iastore (r := 711) F a711 (cc) rfl (by omega) (by decide) dL_sets_117 ?_
              refine g_mem (lwS_711 _ _ _ _ _ _ _ _ _) ?_
              refine g_iload F dL_sets_118 0 rfl ?_
              exact K _ _ _ _ dL_sets_120 rfl ⟨rfl, _, _, _, _, rfl, LAW_s3 ht hn L hcc⟩
          · exact absurd h12 (by omega)
      · exact absurd h10 (by omega)
    · exact absurd h9 (by decide)
  · refine g_iload_n F dL_sets_0 rfl 0 rfl ?_
    refine g_if_ne F 55 dL_sets_1 (by decide) (fun h14 => ?_) (fun h14 => ?_)
    · refine g_iload_n F dL_sets_55 rfl 0 rfl ?_
      refine g_iconst F (v := 1) dL_sets_56 (by decide) ?_
      refine g_icmpN_ne F 74 dL_sets_57 (by decide) (4) (1) rfl rfl (by omega) (by omega) (fun h15 => ?_) (fun h15 => ?_)
      · refine g_iload_n F dL_sets_74 rfl 0 rfl ?_
        refine g_iconst F (v := 4) dL_sets_75 (by decide) ?_
        refine g_icmpN_ge F 121 dL_sets_76 (by decide) (4) (4) rfl rfl (by omega) (by omega) (fun h16 => ?_) (fun h16 => ?_)
        · refine g_iload_n F dL_sets_121 rfl 0 rfl ?_
          refine g_iconst F (v := 4) dL_sets_122 (by decide) ?_
          refine g_icmpN_ne F 148 dL_sets_123 (by decide) (4) (4) rfl rfl (by omega) (by omega) (fun h17 => ?_) (fun h17 => ?_)
          · exact absurd h17 (by omega)
          · refine g_aload F dL_sets_126 6 rfl ?_
            refine g_bipush F (v := 15) dL_sets_128 (by decide +kernel) ?_
            refine g_iaload (r := 711) F a711 (15) rfl (by omega) (by decide) dL_sets_130 ?_
            refine g_top (y := f 71) g15 ?_
            refine g_istore F (lv2 := [(8, _), (0, _), (1, _), (2, _), (3, _), (4, _), (5, _), (6, _), (7, _)]) dL_sets_131 (by decide) rfl ?_
            refine g_aload F dL_sets_133 7 rfl ?_
            refine g_bipush F (v := 15) dL_sets_135 (by decide +kernel) ?_
            refine g_iload_n F dL_sets_137 rfl 2 rfl ?_
            refine g_iastore (r := 711) F a711 (15) rfl (by omega) (by decide) dL_sets_138 ?_
            refine g_mem (lwS_711 _ _ _ _ _ _ _ _ _) ?_
            refine g_aload F dL_sets_139 7 rfl ?_
            refine g_bipush F (v := 16) dL_sets_141 (by decide +kernel) ?_
            refine g_iload_n F dL_sets_143 rfl 3 rfl ?_
            refine g_iastore (r := 711) F a711 (16) rfl (by omega) (by decide) dL_sets_144 ?_
            refine g_mem (lwS_711 _ _ _ _ _ _ _ _ _) ?_
            refine g_iload F dL_sets_145 0 rfl ?_
            exact K _ _ _ _ dL_sets_147 rfl ⟨rfl, _, _, _, _, rfl, LAW_s4 ht hn L⟩
        · exact absurd h16 (by omega)
      · exact absurd h15 (by omega)
    · exact absurd h14 (by decide)
  · obtain ⟨c8, s8, d8, w8, hc8, hs8, hd8, hw8, en, e1, e2, e3, e4⟩ := hN ee9 hee
    obtain rfl : d8 = 0 := nI_inj (by omega) (by omega) (e3.symm.trans h0)
    obtain rfl : cc = c8 := nI_inj (by omega) (by omega) (e92.symm.trans e1)
    refine g_iload_n F dL_sets_0 rfl 0 rfl ?_
    refine g_if_ne F 55 dL_sets_1 (by decide) (fun h18 => ?_) (fun h18 => ?_)
    · refine g_iload_n F dL_sets_55 rfl 0 rfl ?_
      refine g_iconst F (v := 1) dL_sets_56 (by decide) ?_
      refine g_icmpN_ne F 74 dL_sets_57 (by decide) (5) (1) rfl rfl (by omega) (by omega) (fun h19 => ?_) (fun h19 => ?_)
      · refine g_iload_n F dL_sets_74 rfl 0 rfl ?_
        refine g_iconst F (v := 4) dL_sets_75 (by decide) ?_
        refine g_icmpN_ge F 121 dL_sets_76 (by decide) (5) (4) rfl rfl (by omega) (by omega) (fun h20 => ?_) (fun h20 => ?_)
        · refine g_iload_n F dL_sets_121 rfl 0 rfl ?_
          refine g_iconst F (v := 4) dL_sets_122 (by decide) ?_
          refine g_icmpN_ne F 148 dL_sets_123 (by decide) (5) (4) rfl rfl (by omega) (by omega) (fun h21 => ?_) (fun h21 => ?_)
          · refine g_iload_n F dL_sets_148 rfl 1 rfl ?_
            refine g_aload F dL_sets_149 6 rfl ?_
            refine g_bipush F (v := 19) dL_sets_151 (by decide +kernel) ?_
            refine g_iaload (r := 711) F a711 (19) rfl (by omega) (by decide) dL_sets_153 ?_
            refine g_top (y := nI n) g19n ?_
            refine g_icmpN_lt F 160 dL_sets_154 (by decide) (ee9) (n) rfl rfl (by omega) (by omega) (fun h1 => ?_) (fun h1 => ?_)
            · refine g_aload F dL_sets_160 7 rfl ?_
              refine g_iload_n F dL_sets_162 rfl 1 rfl ?_
              refine g_iaload (r := 714) F a714 (ee9) rfl (by omega) (by decide) dL_sets_163 ?_
              refine g_top (y := nI (cc + 8 * s8 + 256 * 0 + 1024 * w8)) en ?_
              refine g_bipush F (v := 8) dL_sets_164 (by decide +kernel) ?_
              refine g_ishr F dL_sets_166 ?_
              refine g_iconst F (v := 3) dL_sets_167 (by decide) ?_
              refine g_iand F dL_sets_168 ?_
              refine g_top (y := nI 0) (un_d hcc hs8 (by omega) hw8) ?_
              refine g_if_le F 175 dL_sets_169 (by decide) (fun h2 => ?_) (fun h2 => ?_)
              · skip
                refine g_aload F dL_sets_175 7 rfl ?_
                refine g_iload_n F dL_sets_177 rfl 1 rfl ?_
                refine g_iaload (r := 714) F a714 (ee9) rfl (by omega) (by decide) dL_sets_178 ?_
                refine g_top (y := nI (cc + 8 * s8 + 256 * 0 + 1024 * w8)) en ?_
                refine g_bipush F (v := 10) dL_sets_179 (by decide +kernel) ?_
                refine g_ishr F dL_sets_181 ?_
                refine g_top (y := nI w8) (un_w hcc hs8 (by omega) hw8) ?_
                refine g_iconst F (v := 2) dL_sets_182 (by decide) ?_
                refine g_icmpN_ge F 190 dL_sets_183 (by decide) (w8) (2) rfl rfl (by omega) (by omega) (fun h3 => ?_) (fun h3 => ?_)
                · refine g_iconst F (v := 0) dL_sets_190 (by decide) ?_
                  refine g_istore F (lv2 := [(8, _), (0, _), (1, _), (2, _), (3, _), (4, _), (5, _), (6, _), (7, _)]) dL_sets_191 (by decide) rfl ?_
                  refine g_aload F dL_sets_193 8 rfl ?_
                  refine g_iload_n F dL_sets_195 rfl 2 rfl ?_
                  refine g_dup2 F dL_sets_196 rfl rfl ?_
                  refine g_iaload (r := 714) F a714 (ee9) rfl (by omega) (by decide) dL_sets_197 ?_
                  refine g_top (y := nI (cc + 8 * s8 + 256 * 0 + 1024 * w8)) en ?_
                  refine g_iload F dL_sets_198 0 rfl ?_
                  refine g_if_eq F 209 dL_sets_200 (by decide) (fun h22 => ?_) (fun h22 => ?_)
                  · refine g_sipush F (v := 256) dL_sets_209 (by decide +kernel) ?_
                    refine g_iadd F dL_sets_212 ?_
                    refine g_iastore (r := 714) F a714 (ee9) rfl (by omega) (by decide) dL_sets_213 ?_
                    refine g_mem (lwS_714 _ _ _ _ _ _ _ _ _) ?_
                    refine g_iload F dL_sets_214 0 rfl ?_
                    refine g_if_eq F 223 dL_sets_216 (by decide) (fun h23 => ?_) (fun h23 => ?_)
                    · refine g_iconst F (v := 0) dL_sets_223 (by decide) ?_
                      exact K _ _ _ _ dL_sets_224 rfl ⟨by first | exact congrArg (fun q9 => some (Value.int q9)) (daB_y e4 h3).symm | exact congrArg (fun q9 => some (Value.int q9)) (daB_n e4 h3 hw8).symm, _, _, _, _, rfl, by first | exact LAW_s5 ht hn hee hcc hs8 hw8 L e92 e2 e4 (Or.inl ⟨h3, rfl⟩) | exact LAW_s5 ht hn hee hcc hs8 hw8 L e92 e2 e4 (Or.inr ⟨h3, rfl⟩)⟩
                    · exact absurd h23 (by decide)
                  · exact absurd h22 (by decide)
                · refine g_iconst F (v := 1) dL_sets_186 (by decide) ?_
                  refine g_goto F 191 dL_sets_187 (by decide) ?_
                  refine g_istore F (lv2 := [(8, _), (0, _), (1, _), (2, _), (3, _), (4, _), (5, _), (6, _), (7, _)]) dL_sets_191 (by decide) rfl ?_
                  refine g_aload F dL_sets_193 8 rfl ?_
                  refine g_iload_n F dL_sets_195 rfl 2 rfl ?_
                  refine g_dup2 F dL_sets_196 rfl rfl ?_
                  refine g_iaload (r := 714) F a714 (ee9) rfl (by omega) (by decide) dL_sets_197 ?_
                  refine g_top (y := nI (cc + 8 * s8 + 256 * 0 + 1024 * w8)) en ?_
                  refine g_iload F dL_sets_198 0 rfl ?_
                  refine g_if_eq F 209 dL_sets_200 (by decide) (fun h24 => ?_) (fun h24 => ?_)
                  · exact absurd h24 (by decide)
                  · refine g_sipush F (v := 512) dL_sets_203 (by decide +kernel) ?_
                    refine g_goto F 212 dL_sets_206 (by decide) ?_
                    refine g_iadd F dL_sets_212 ?_
                    refine g_iastore (r := 714) F a714 (ee9) rfl (by omega) (by decide) dL_sets_213 ?_
                    refine g_mem (lwS_714 _ _ _ _ _ _ _ _ _) ?_
                    refine g_iload F dL_sets_214 0 rfl ?_
                    refine g_if_eq F 223 dL_sets_216 (by decide) (fun h25 => ?_) (fun h25 => ?_)
                    · exact absurd h25 (by decide)
                    · refine g_iconst F (v := 1) dL_sets_219 (by decide) ?_
                      refine g_goto F 224 dL_sets_220 (by decide) ?_
                      exact K _ _ _ _ dL_sets_224 rfl ⟨by first | exact congrArg (fun q9 => some (Value.int q9)) (daB_y e4 h3).symm | exact congrArg (fun q9 => some (Value.int q9)) (daB_n e4 h3 hw8).symm, _, _, _, _, rfl, by first | exact LAW_s5 ht hn hee hcc hs8 hw8 L e92 e2 e4 (Or.inl ⟨h3, rfl⟩) | exact LAW_s5 ht hn hee hcc hs8 hw8 L e92 e2 e4 (Or.inr ⟨h3, rfl⟩)⟩
              · exact absurd (by decide) h2
            · exact absurd h1 (by omega)
          · exact absurd h21 (by omega)
        · exact absurd h20 (by omega)
      · exact absurd h19 (by omega)
    · exact absurd h18 (by decide)
  · refine g_iload_n F dL_sets_0 rfl 0 rfl ?_
    refine g_if_ne F 55 dL_sets_1 (by decide) (fun h26 => ?_) (fun h26 => ?_)
    · refine g_iload_n F dL_sets_55 rfl 0 rfl ?_
      refine g_iconst F (v := 1) dL_sets_56 (by decide) ?_
      refine g_icmpN_ne F 74 dL_sets_57 (by decide) (5) (1) rfl rfl (by omega) (by omega) (fun h27 => ?_) (fun h27 => ?_)
      · refine g_iload_n F dL_sets_74 rfl 0 rfl ?_
        refine g_iconst F (v := 4) dL_sets_75 (by decide) ?_
        refine g_icmpN_ge F 121 dL_sets_76 (by decide) (5) (4) rfl rfl (by omega) (by omega) (fun h28 => ?_) (fun h28 => ?_)
        · refine g_iload_n F dL_sets_121 rfl 0 rfl ?_
          refine g_iconst F (v := 4) dL_sets_122 (by decide) ?_
          refine g_icmpN_ne F 148 dL_sets_123 (by decide) (5) (4) rfl rfl (by omega) (by omega) (fun h29 => ?_) (fun h29 => ?_)
          · refine g_iload_n F dL_sets_148 rfl 1 rfl ?_
            refine g_aload F dL_sets_149 6 rfl ?_
            refine g_bipush F (v := 19) dL_sets_151 (by decide +kernel) ?_
            refine g_iaload (r := 711) F a711 (19) rfl (by omega) (by decide) dL_sets_153 ?_
            refine g_top (y := nI n) g19n ?_
            refine g_icmpN_lt F 160 dL_sets_154 (by decide) (n) (n) rfl rfl (by omega) (by omega) (fun h1 => ?_) (fun h1 => ?_)
            · exact absurd h1 (by omega)
            · refine g_bipush F (v := -101) dL_sets_157 (by decide +kernel) ?_
              exact K _ _ _ _ dL_sets_159 rfl ⟨rfl, _, _, _, _, rfl, L⟩
          · exact absurd h29 (by omega)
        · exact absurd h28 (by omega)
      · exact absurd h27 (by omega)
    · exact absurd h26 (by decide)
  · obtain ⟨c8, s8, d8, w8, hc8, hs8, hd8, hw8, en, e1, e2, e3, e4⟩ := hN ee9 hee
    refine g_iload_n F dL_sets_0 rfl 0 rfl ?_
    refine g_if_ne F 55 dL_sets_1 (by decide) (fun h30 => ?_) (fun h30 => ?_)
    · refine g_iload_n F dL_sets_55 rfl 0 rfl ?_
      refine g_iconst F (v := 1) dL_sets_56 (by decide) ?_
      refine g_icmpN_ne F 74 dL_sets_57 (by decide) (5) (1) rfl rfl (by omega) (by omega) (fun h31 => ?_) (fun h31 => ?_)
      · refine g_iload_n F dL_sets_74 rfl 0 rfl ?_
        refine g_iconst F (v := 4) dL_sets_75 (by decide) ?_
        refine g_icmpN_ge F 121 dL_sets_76 (by decide) (5) (4) rfl rfl (by omega) (by omega) (fun h32 => ?_) (fun h32 => ?_)
        · refine g_iload_n F dL_sets_121 rfl 0 rfl ?_
          refine g_iconst F (v := 4) dL_sets_122 (by decide) ?_
          refine g_icmpN_ne F 148 dL_sets_123 (by decide) (5) (4) rfl rfl (by omega) (by omega) (fun h33 => ?_) (fun h33 => ?_)
          · refine g_iload_n F dL_sets_148 rfl 1 rfl ?_
            refine g_aload F dL_sets_149 6 rfl ?_
            refine g_bipush F (v := 19) dL_sets_151 (by decide +kernel) ?_
            refine g_iaload (r := 711) F a711 (19) rfl (by omega) (by decide) dL_sets_153 ?_
            refine g_top (y := nI n) g19n ?_
            refine g_icmpN_lt F 160 dL_sets_154 (by decide) (ee9) (n) rfl rfl (by omega) (by omega) (fun h1 => ?_) (fun h1 => ?_)
            · refine g_aload F dL_sets_160 7 rfl ?_
              refine g_iload_n F dL_sets_162 rfl 1 rfl ?_
              refine g_iaload (r := 714) F a714 (ee9) rfl (by omega) (by decide) dL_sets_163 ?_
              refine g_top (y := nI (c8 + 8 * s8 + 256 * d8 + 1024 * w8)) en ?_
              refine g_bipush F (v := 8) dL_sets_164 (by decide +kernel) ?_
              refine g_ishr F dL_sets_166 ?_
              refine g_iconst F (v := 3) dL_sets_167 (by decide) ?_
              refine g_iand F dL_sets_168 ?_
              refine g_top (y := nI d8) (un_d hc8 hs8 hd8 hw8) ?_
              refine g_if_le F 175 dL_sets_169 (by decide) (fun h2 => ?_) (fun h2 => ?_)
              · exact absurd (d0_of e3 h2 hd8) h0
              · refine g_bipush F (v := -103) dL_sets_172 (by decide +kernel) ?_
                exact K _ _ _ _ dL_sets_174 rfl ⟨rfl, _, _, _, _, rfl, L⟩
            · exact absurd h1 (by omega)
          · exact absurd h33 (by omega)
        · exact absurd h32 (by omega)
      · exact absurd h31 (by omega)
    · exact absurd h30 (by decide)
