/-! the law's eyes: sees, reading, why, stand -/
theorem i_12 {x : Int32} : x < 12 ↔ x ≤ 11 := by
  rw [Int32.lt_iff_toInt_lt, Int32.le_iff_toInt_le, show (12 : Int32).toInt = 12 from rfl, show (11 : Int32).toInt = 11 from rfl]
  omega
def seF (g sh v : Int32) : Int32 := if ¬ g < 3 ∧ ¬ 2 < sh then 0 else if v < 0 then 0 else if 5 < v then 5 else v
theorem seA {g sh v : Int32} (h1 : ¬ g < 3) (h2 : ¬ 2 < sh) : seF g sh v = 0 := if_pos ⟨h1, h2⟩
theorem seB {g sh v : Int32} (h : g < 3 ∨ 2 < sh) : seF g sh v = if v < 0 then 0 else if 5 < v then 5 else v := if_neg (fun z => h.elim z.1 z.2)
theorem seB0 {g sh v : Int32} (h : g < 3 ∨ 2 < sh) (h3 : ¬ 0 ≤ v) : seF g sh v = 0 := (seB h).trans (if_pos (Int32.not_le.mp h3))
theorem seB1 {g sh v : Int32} (h : g < 3 ∨ 2 < sh) (h3 : 0 ≤ v) (h4 : v ≤ 5) : seF g sh v = v := by rw [seB h, if_neg (Int32.not_lt.mpr h3), if_neg (Int32.not_lt.mpr h4)]
theorem seB2 {g sh v : Int32} (h : g < 3 ∨ 2 < sh) (h3 : 0 ≤ v) (h4 : ¬ v ≤ 5) : seF g sh v = 5 := by rw [seB h, if_neg (Int32.not_lt.mpr h3), if_pos (Int32.not_le.mp h4)]
theorem se_ret {f g q : Nat → Int32} {t e k : Nat} {v : Int32} (h74 : f 74 = nI t) (hG : LG g f) (hQ : LQ q f) (he : e < 3) (ht : t < 96) (hd : q (3 + e) ≤ 11 ∧ v = shR f k (nI t) + q e - 0 ∨ ¬ q (3 + e) ≤ 11 ∧ v = shR f k (nI t) + q e - 1) : rdgR f t e k = seF (g (t / 4)) (shR f k (nI t)) v := by
  obtain ⟨q1, q2, -⟩ := hQ e he
  have hv : tldR f e (shR f k (nI t)) = v := by
    unfold tldR
    rw [← q1, ← q2]
    rcases hd with ⟨h, rfl⟩ | ⟨h, rfl⟩
    · rw [if_pos (i_12.mpr h)]
    · rw [if_neg (fun z => h (i_12.mp z))]
  have hc : (2 < g (t / 4) ∧ shR f k (nI t) < 3) ↔ (¬ g (t / 4) < 3 ∧ ¬ 2 < shR f k (nI t)) := by
    rw [i_lt3, i_lt3, Decidable.not_not]
  unfold rdgR seF
  rw [h74, hv, ← hG (t / 4) (by omega)]
  by_cases hx : 2 < g (t / 4) ∧ shR f k (nI t) < 3
  · rw [if_pos hx, if_pos (hc.mp hx)]
  · rw [if_neg hx, if_neg (fun z => hx (hc.mpr z))]
theorem mx_le {x y : Int32} (h : y ≤ x) : mxI x y = x := if_neg (Int32.not_lt.mpr h)
theorem mx_gt {x y : Int32} (h : ¬ y ≤ x) : mxI x y = y := if_pos (Int32.not_le.mp h)
/-- the reading of chimney k, of the first e observers -/
def RDF (f : Nat → Int32) (t k : Nat) : Nat → Int32
  | 0 => -1
  | e + 1 => mxI (RDF f t k e) (if f (62 + e) = nI k then rdgR f t e k else -1)
theorem RDF_a {f q : Nat → Int32} {t k e : Nat} (hQ : LQ q f) (he : e < 3) (h : ¬ q (6 + e) = nI k) (h2 : (-1 : Int32) ≤ RDF f t k e) : RDF f t k (e + 1) = RDF f t k e := by
  show mxI (RDF f t k e) (if f (62 + e) = nI k then rdgR f t e k else -1) = _; rw [← (hQ e he).2.2, if_neg h, mx_le h2]
theorem RDF_b {f q : Nat → Int32} {t k e : Nat} (hQ : LQ q f) (he : e < 3) (h : ¬ q (6 + e) = nI k) (h2 : ¬ (-1 : Int32) ≤ RDF f t k e) : RDF f t k (e + 1) = -1 := by
  show mxI (RDF f t k e) (if f (62 + e) = nI k then rdgR f t e k else -1) = _; rw [← (hQ e he).2.2, if_neg h, mx_gt h2]
theorem RDF_c {f q : Nat → Int32} {t k e : Nat} (hQ : LQ q f) (he : e < 3) (h : q (6 + e) = nI k) (h2 : rdgR f t e k ≤ RDF f t k e) : RDF f t k (e + 1) = RDF f t k e := by
  show mxI (RDF f t k e) (if f (62 + e) = nI k then rdgR f t e k else -1) = _; rw [← (hQ e he).2.2, if_pos h, mx_le h2]
theorem RDF_d {f q : Nat → Int32} {t k e : Nat} (hQ : LQ q f) (he : e < 3) (h : q (6 + e) = nI k) (h2 : ¬ rdgR f t e k ≤ RDF f t k e) : RDF f t k (e + 1) = rdgR f t e k := by
  show mxI (RDF f t k e) (if f (62 + e) = nI k then rdgR f t e k else -1) = _; rw [← (hQ e he).2.2, if_pos h, mx_gt h2]
def WG (f : Nat → Int32) (t : Nat) : Nat → Int32
  | 0 => 0
  | b + 1 => if WG f t b = 0 then (if f (1708 + (t - b)) < 3 then 0 else 1) else 1
def WL (f : Nat → Int32) (k t : Nat) : Nat → Int32
  | 0 => 0
  | b + 1 => if WL f k t b = 0 then (if f (940 + 96 * k + (t - b)) < f 71 then 1 else 0) else 1
def whW (f : Nat → Int32) (k t p : Nat) : Int32 := if WG f t p = 0 then (if WL f k t p = 0 then 2 else 1) else 0
theorem WG_a {f : Nat → Int32} {t b : Nat} (h : ¬ WG f t b = 0) : WG f t (b + 1) = 1 := if_neg h
theorem WG_b {f : Nat → Int32} {t b : Nat} (h : WG f t b = 0) (h2 : f (1708 + (t - b)) < 3) : WG f t (b + 1) = 0 := (if_pos h).trans (if_pos h2)
theorem WG_c {f : Nat → Int32} {t b : Nat} (h : WG f t b = 0) (h2 : ¬ f (1708 + (t - b)) < 3) : WG f t (b + 1) = 1 := (if_pos h).trans (if_neg h2)
theorem WL_a {f : Nat → Int32} {k t b : Nat} (h : ¬ WL f k t b = 0) : WL f k t (b + 1) = 1 := if_neg h
theorem WL_b {f : Nat → Int32} {k t b : Nat} (h : WL f k t b = 0) (h2 : f 71 ≤ f (940 + 96 * k + (t - b))) : WL f k t (b + 1) = 0 := (if_pos h).trans (if_neg (Int32.not_lt.mpr h2))
theorem WL_c {f : Nat → Int32} {k t b : Nat} (h : WL f k t b = 0) (h2 : ¬ f 71 ≤ f (940 + 96 * k + (t - b))) : WL f k t (b + 1) = 1 := (if_pos h).trans (if_pos (Int32.not_le.mp h2))
theorem WG_spec (f : Nat → Int32) (t : Nat) : ∀ b, (WG f t b = 0 ∧ ∀ j, j < b → f (1708 + (t - j)) < 3) ∨ (WG f t b = 1 ∧ ∃ j, j < b ∧ ¬ f (1708 + (t - j)) < 3) := by
  intro b
  induction b with
  | zero => exact Or.inl ⟨rfl, fun j h => absurd h (by omega)⟩
  | succ b ih =>
    rcases ih with ⟨h1, h2⟩ | ⟨h1, j, h2, h3⟩
    · by_cases h4 : f (1708 + (t - b)) < 3
      · refine Or.inl ⟨WG_b h1 h4, fun j hj => ?_⟩
        by_cases h5 : j = b
        · rw [h5]; exact h4
        · exact h2 j (by omega)
      · exact Or.inr ⟨WG_c h1 h4, b, by omega, h4⟩
    · exact Or.inr ⟨WG_a (by rw [h1]; decide), j, by omega, h3⟩
theorem WL_spec (f : Nat → Int32) (k t : Nat) : ∀ b, (WL f k t b = 0 ∧ ∀ j, j < b → ¬ f (940 + 96 * k + (t - j)) < f 71) ∨ (WL f k t b = 1 ∧ ∃ j, j < b ∧ f (940 + 96 * k + (t - j)) < f 71) := by
  intro b
  induction b with
  | zero => exact Or.inl ⟨rfl, fun j h => absurd h (by omega)⟩
  | succ b ih =>
    rcases ih with ⟨h1, h2⟩ | ⟨h1, j, h2, h3⟩
    · by_cases h4 : f (940 + 96 * k + (t - b)) < f 71
      · exact Or.inr ⟨WL_c h1 (Int32.not_le.mpr h4), b, by omega, h4⟩
      · refine Or.inl ⟨WL_b h1 (Int32.not_lt.mp h4), fun j hj => ?_⟩
        by_cases h5 : j = b
        · rw [h5]; exact h4
        · exact h2 j (by omega)
    · exact Or.inr ⟨WL_a (by rw [h1]; decide), j, by omega, h3⟩
theorem whW_eq {f : Nat → Int32} {k t p : Nat} (hp : p ≤ t + 1) : whW f k t p = whR f k (t + 1 - p) p := by
  have flip : ∀ j, j < p → t + 1 - p + (p - 1 - j) = t - j := fun j hj => by omega
  unfold whW
  rcases whR_spec f k (t + 1 - p) p with ⟨e, j, hj, h⟩ | ⟨e, h1, j, hj, h⟩ | ⟨e, h1, h2⟩
  · rw [e]
    rcases WG_spec f t p with ⟨e2, a⟩ | ⟨e2, -⟩
    · exact absurd (a (p - 1 - j) (by omega)) (by rw [i_lt3, Decidable.not_not, show t - (p - 1 - j) = t + 1 - p + j by omega]; exact h)
    · rw [e2]; rfl
  · rw [e]
    rcases WG_spec f t p with ⟨e2, -⟩ | ⟨e2, i2, hi2, a⟩
    · rw [e2, if_pos rfl]
      rcases WL_spec f k t p with ⟨e3, a⟩ | ⟨e3, -⟩
      · exact absurd h (by rw [show t + 1 - p + j = t - (p - 1 - j) by omega]; exact a (p - 1 - j) (by omega))
      · rw [e3]; rfl
    · refine absurd a (Decidable.not_not.mpr ?_)
      rw [i_lt3, ← flip i2 hi2]; exact h1 (p - 1 - i2) (by omega)
  · rw [e]
    rcases WG_spec f t p with ⟨e2, -⟩ | ⟨e2, i2, hi2, a⟩
    · rw [e2, if_pos rfl]
      rcases WL_spec f k t p with ⟨e3, -⟩ | ⟨e3, i2, hi2, a⟩
      · rw [e3]; rfl
      · exact absurd a (by rw [← flip i2 hi2]; exact h2 (p - 1 - i2) (by omega))
    · refine absurd a (Decidable.not_not.mpr ?_)
      rw [i_lt3, ← flip i2 hi2]; exact h1 (p - 1 - i2) (by omega)
/-- the notices, packed -/
def LNn (n f : Nat → Int32) (m : Nat) : Prop := ∀ e, e < m → ∃ c s d w, c < 8 ∧ s ≤ 31 ∧ d ≤ 2 ∧ w ≤ 2 ∧ n e = nI (c + 8 * s + 256 * d + 1024 * w) ∧ f (92 + e) = nI c ∧ f (112 + e) = nI (10 * s) ∧ f (132 + e) = nI d ∧ f (152 + e) = nI w
theorem un_c {c s d w : Nat} (hc : c < 8) (hs : s ≤ 31) (hd : d ≤ 2) (hw : w ≤ 2) : nI (c + 8 * s + 256 * d + 1024 * w) &&& 7 = nI c := by
  rw [pk_andN (by omega) 3 (by decide)]; exact congrArg nI (by omega)
theorem un_s {c s d w : Nat} (hc : c < 8) (hs : s ≤ 31) (hd : d ≤ 2) (hw : w ≤ 2) : nI (c + 8 * s + 256 * d + 1024 * w) >>> ((3 : Int32) &&& 31) &&& 31 = nI s := by
  rw [pk_shrN (by omega) _ 3 (by decide), pk_andN (by omega) 5 (by decide)]; exact congrArg nI (by omega)
theorem un_d {c s d w : Nat} (hc : c < 8) (hs : s ≤ 31) (hd : d ≤ 2) (hw : w ≤ 2) : nI (c + 8 * s + 256 * d + 1024 * w) >>> ((8 : Int32) &&& 31) &&& 3 = nI d := by
  rw [pk_shrN (by omega) _ 8 (by decide), pk_andN (by omega) 2 (by decide)]; exact congrArg nI (by omega)
theorem un_w {c s d w : Nat} (hc : c < 8) (hs : s ≤ 31) (hd : d ≤ 2) (hw : w ≤ 2) : nI (c + 8 * s + 256 * d + 1024 * w) >>> ((10 : Int32) &&& 31) = nI w := by
  rw [pk_shrN (by omega) _ 10 (by decide)]; exact congrArg nI (by omega)
/-- how many notices of chimney k stand -/
def STL (f : Nat → Int32) (k : Nat) : Nat → Int32
  | 0 => 0
  | e + 1 => STL f k e + (if f (92 + e) = nI k ∧ f (132 + e) < 2 then 1 else 0)
theorem gtS_ST (f : Nat → Int32) (k : Nat) : ∀ m, gtS f k m = 1 + STL f k m := by
  intro m
  induction m with
  | zero => rfl
  | succ m ih => unfold gtS STL; rw [ih, Int32.add_assoc]
theorem STL_n {f : Nat → Int32} {k e c d : Nat} (h1 : f (92 + e) = nI c) (hc : c < 8) (hk : k < 8) (h : ¬ c = k) : STL f k (e + 1) = STL f k e + 0 := by
  show STL f k e + (if f (92 + e) = nI k ∧ f (132 + e) < 2 then 1 else 0) = _; rw [if_neg (fun z => h (nI_inj (by omega) (by omega) (h1.symm.trans z.1)))]
theorem STL_m {f : Nat → Int32} {k e c d : Nat} (h1 : f (92 + e) = nI c) (h3 : f (132 + e) = nI d) (hd : d ≤ 2) (h : 2 ≤ d) : STL f k (e + 1) = STL f k e + 0 := by
  show STL f k e + (if f (92 + e) = nI k ∧ f (132 + e) < 2 then 1 else 0) = _; rw [if_neg (fun z => by have h4 := z.2; rw [h3] at h4; have := (nI_ltI (a := d) (b := 2) (by omega) (by omega)).mp h4; omega)]
theorem STL_y {f : Nat → Int32} {k e c d : Nat} (h1 : f (92 + e) = nI c) (h3 : f (132 + e) = nI d) (hc : c = k) (h : d < 2) : STL f k (e + 1) = STL f k e + 1 := by
  show STL f k e + (if f (92 + e) = nI k ∧ f (132 + e) < 2 then 1 else 0) = _; rw [if_pos ⟨by rw [h1, hc], by rw [h3]; exact (nI_ltI (a := d) (b := 2) (by omega) (by omega)).mpr h⟩]

abbrev rmL_sees : Room := { frames := 1, cells := 0, slots := 0, locals := 24 }
set_option maxHeartbeats 4000000 in
set_option maxRecDepth 100000 in
theorem kL_sees (l : Launch) {M : Mm} {f : Nat → Int32} {t e k : Nat} (hC : LC (M 709) f) (hS : SH f) (hG : LG (M 710) f) (hQ : LQ (M 711) f) (h18 : M 711 18 = nI t) (h74 : f 74 = nI t) (he : e < 3) (hk : k < 8) (ht : t < 96) : Ct l yL_sees wsL_sees rmL_sees (fun B => [.int (nI e), .int (nI k), .ref (B + 709), .ref (B + 710), .ref (B + 711)]) M (fun _ v u => v = some (.int (rdgR f t e k)) ∧ u = M) := by
  refine Ct.ofI (own := RL) (by decide +kernel) rfl rfl (fun B => Nat.le_of_ble_eq_true rfl) ?_
  intro pp ee ss mm aa bb me c9 DD ca B Tl AA QQ F K
  show G pp l ee rmL_sees ss mm aa bb me c9 QQ DD ca B Tl AA 7 0 0 M 0 [(0, .int (nI e)), (1, .int (nI k)), (2, .ref (B + 709)), (3, .ref (B + 710)), (4, .ref (B + 711))] []
  refine g_iload_n F dL_sees_0 rfl 1 rfl ?_
  refine g_aload F dL_sees_1 4 rfl ?_
  refine g_bipush F (v := 18) dL_sees_3 (by decide +kernel) ?_
  refine g_iaload (r := 711) F a711 (18) rfl (by omega) (by decide) dL_sees_5 ?_
  refine g_top (y := nI t) h18 ?_
  refine g_aload_n F dL_sees_6 rfl 2 rfl ?_
  refine g_callS F (kL_shade l (f := f) hC hS hk ht) (va_cwS 3 F.1.2.2.2.2 gL_sees_L_shade rfl rfl rfl (by decide +kernel) ⟨Nat.le_of_ble_eq_true rfl, Nat.le_of_ble_eq_true rfl⟩) rfl rfl rfl (Nat.le_of_ble_eq_true rfl) dL_sees_7 ⟨Nat.le_of_ble_eq_true rfl, Nat.le_of_ble_eq_true rfl⟩ (g_det ?_)
  refine g_istore F (lv2 := [(5, _), (0, _), (1, _), (2, _), (3, _), (4, _)]) dL_sees_10 (by decide) rfl ?_
  refine g_iload F dL_sees_12 0 rfl ?_
  refine g_aload F dL_sees_14 5 rfl ?_
  refine g_iload_n F dL_sees_16 rfl 1 rfl ?_
  refine g_iaload (r := 711) F a711 (e) rfl (by omega) (by decide) dL_sees_17 ?_
  refine g_iadd F dL_sees_18 ?_
  refine g_aload F dL_sees_19 5 rfl ?_
  refine g_iconst F (v := 3) dL_sees_21 (by decide) ?_
  refine g_iload_n F dL_sees_22 rfl 1 rfl ?_
  refine g_iadd F dL_sees_23 ?_
  refine g_top (nI_add (3) (e)) ?_
  refine g_iaload (r := 711) F a711 ((3 + e)) rfl (by omega) (by decide) dL_sees_24 ?_
  refine g_bipush F (v := 11) dL_sees_25 (by decide +kernel) ?_
  refine g_icmp_le F 34 dL_sees_27 (by decide) (fun hd => ?_) (fun hd => ?_)
  · have hS9 : rdgR f t e k = seF (M 710 (t / 4)) (shR f k (nI t)) (shR f k (nI t) + M 711 e - 0) := se_ret h74 hG hQ he ht (Or.inl ⟨hd, rfl⟩)
    refine g_iconst F (v := 0) dL_sees_34 (by decide) ?_
    refine g_isub F dL_sees_35 ?_
    refine g_istore F (lv2 := [(6, _), (5, _), (0, _), (1, _), (2, _), (3, _), (4, _)]) dL_sees_36 (by decide) rfl ?_
    refine g_aload_n F dL_sees_38 rfl 5 rfl ?_
    refine g_aload F dL_sees_39 6 rfl ?_
    refine g_bipush F (v := 18) dL_sees_41 (by decide +kernel) ?_
    refine g_iaload (r := 711) F a711 (18) rfl (by omega) (by decide) dL_sees_43 ?_
    refine g_top (y := nI t) h18 ?_
    refine g_iconst F (v := 4) dL_sees_44 (by decide) ?_
    refine g_idiv F dL_sees_45 (by decide) ?_
    refine g_top (pk_div (a := t) (d := 4) (by omega) (by omega) (by omega)) ?_
    refine g_iaload (r := 710) F a710 ((t / 4)) rfl (by omega) (by decide) dL_sees_46 ?_
    refine g_iconst F (v := 3) dL_sees_47 (by decide) ?_
    refine g_icmp_lt F 61 dL_sees_48 (by decide) (fun h1 => ?_) (fun h1 => ?_)
    · refine g_iload F dL_sees_61 0 rfl ?_
      refine g_if_ge F 70 dL_sees_63 (by decide) (fun h3 => ?_) (fun h3 => ?_)
      · refine g_iload F dL_sees_70 0 rfl ?_
        refine g_iconst F (v := 5) dL_sees_72 (by decide) ?_
        refine g_icmp_le F 80 dL_sees_73 (by decide) (fun h4 => ?_) (fun h4 => ?_)
        · refine g_iload F dL_sees_80 0 rfl ?_
          exact K _ _ _ _ dL_sees_82 rfl ⟨congrArg (fun z => some (Value.int z)) (by first | exact (hS9.trans (seA h1 h2)).symm | exact (hS9.trans (seB0 (Or.inl h1) h3)).symm | exact (hS9.trans (seB0 (Or.inr h2) h3)).symm | exact (hS9.trans (seB1 (Or.inl h1) h3 h4)).symm | exact (hS9.trans (seB1 (Or.inr h2) h3 h4)).symm | exact (hS9.trans (seB2 (Or.inl h1) h3 h4)).symm | exact (hS9.trans (seB2 (Or.inr h2) h3 h4)).symm), rfl⟩
        · refine g_iconst F (v := 5) dL_sees_76 (by decide) ?_
          refine g_goto F 82 dL_sees_77 (by decide) ?_
          exact K _ _ _ _ dL_sees_82 rfl ⟨congrArg (fun z => some (Value.int z)) (by first | exact (hS9.trans (seA h1 h2)).symm | exact (hS9.trans (seB0 (Or.inl h1) h3)).symm | exact (hS9.trans (seB0 (Or.inr h2) h3)).symm | exact (hS9.trans (seB1 (Or.inl h1) h3 h4)).symm | exact (hS9.trans (seB1 (Or.inr h2) h3 h4)).symm | exact (hS9.trans (seB2 (Or.inl h1) h3 h4)).symm | exact (hS9.trans (seB2 (Or.inr h2) h3 h4)).symm), rfl⟩
      · refine g_iconst F (v := 0) dL_sees_66 (by decide) ?_
        refine g_goto F 82 dL_sees_67 (by decide) ?_
        exact K _ _ _ _ dL_sees_82 rfl ⟨congrArg (fun z => some (Value.int z)) (by first | exact (hS9.trans (seA h1 h2)).symm | exact (hS9.trans (seB0 (Or.inl h1) h3)).symm | exact (hS9.trans (seB0 (Or.inr h2) h3)).symm | exact (hS9.trans (seB1 (Or.inl h1) h3 h4)).symm | exact (hS9.trans (seB1 (Or.inr h2) h3 h4)).symm | exact (hS9.trans (seB2 (Or.inl h1) h3 h4)).symm | exact (hS9.trans (seB2 (Or.inr h2) h3 h4)).symm), rfl⟩
    · refine g_iload F dL_sees_51 1 rfl ?_
      refine g_iconst F (v := 2) dL_sees_53 (by decide) ?_
      refine g_icmp_gt F 61 dL_sees_54 (by decide) (fun h2 => ?_) (fun h2 => ?_)
      · refine g_iload F dL_sees_61 0 rfl ?_
        refine g_if_ge F 70 dL_sees_63 (by decide) (fun h3 => ?_) (fun h3 => ?_)
        · refine g_iload F dL_sees_70 0 rfl ?_
          refine g_iconst F (v := 5) dL_sees_72 (by decide) ?_
          refine g_icmp_le F 80 dL_sees_73 (by decide) (fun h4 => ?_) (fun h4 => ?_)
          · refine g_iload F dL_sees_80 0 rfl ?_
            exact K _ _ _ _ dL_sees_82 rfl ⟨congrArg (fun z => some (Value.int z)) (by first | exact (hS9.trans (seA h1 h2)).symm | exact (hS9.trans (seB0 (Or.inl h1) h3)).symm | exact (hS9.trans (seB0 (Or.inr h2) h3)).symm | exact (hS9.trans (seB1 (Or.inl h1) h3 h4)).symm | exact (hS9.trans (seB1 (Or.inr h2) h3 h4)).symm | exact (hS9.trans (seB2 (Or.inl h1) h3 h4)).symm | exact (hS9.trans (seB2 (Or.inr h2) h3 h4)).symm), rfl⟩
          · refine g_iconst F (v := 5) dL_sees_76 (by decide) ?_
            refine g_goto F 82 dL_sees_77 (by decide) ?_
            exact K _ _ _ _ dL_sees_82 rfl ⟨congrArg (fun z => some (Value.int z)) (by first | exact (hS9.trans (seA h1 h2)).symm | exact (hS9.trans (seB0 (Or.inl h1) h3)).symm | exact (hS9.trans (seB0 (Or.inr h2) h3)).symm | exact (hS9.trans (seB1 (Or.inl h1) h3 h4)).symm | exact (hS9.trans (seB1 (Or.inr h2) h3 h4)).symm | exact (hS9.trans (seB2 (Or.inl h1) h3 h4)).symm | exact (hS9.trans (seB2 (Or.inr h2) h3 h4)).symm), rfl⟩
        · refine g_iconst F (v := 0) dL_sees_66 (by decide) ?_
          refine g_goto F 82 dL_sees_67 (by decide) ?_
          exact K _ _ _ _ dL_sees_82 rfl ⟨congrArg (fun z => some (Value.int z)) (by first | exact (hS9.trans (seA h1 h2)).symm | exact (hS9.trans (seB0 (Or.inl h1) h3)).symm | exact (hS9.trans (seB0 (Or.inr h2) h3)).symm | exact (hS9.trans (seB1 (Or.inl h1) h3 h4)).symm | exact (hS9.trans (seB1 (Or.inr h2) h3 h4)).symm | exact (hS9.trans (seB2 (Or.inl h1) h3 h4)).symm | exact (hS9.trans (seB2 (Or.inr h2) h3 h4)).symm), rfl⟩
      · refine g_iconst F (v := 0) dL_sees_57 (by decide) ?_
        refine g_goto F 82 dL_sees_58 (by decide) ?_
        exact K _ _ _ _ dL_sees_82 rfl ⟨congrArg (fun z => some (Value.int z)) (by first | exact (hS9.trans (seA h1 h2)).symm | exact (hS9.trans (seB0 (Or.inl h1) h3)).symm | exact (hS9.trans (seB0 (Or.inr h2) h3)).symm | exact (hS9.trans (seB1 (Or.inl h1) h3 h4)).symm | exact (hS9.trans (seB1 (Or.inr h2) h3 h4)).symm | exact (hS9.trans (seB2 (Or.inl h1) h3 h4)).symm | exact (hS9.trans (seB2 (Or.inr h2) h3 h4)).symm), rfl⟩
  · have hS9 : rdgR f t e k = seF (M 710 (t / 4)) (shR f k (nI t)) (shR f k (nI t) + M 711 e - 1) := se_ret h74 hG hQ he ht (Or.inr ⟨hd, rfl⟩)
    refine g_iconst F (v := 1) dL_sees_30 (by decide) ?_
    refine g_goto F 35 dL_sees_31 (by decide) ?_
    refine g_isub F dL_sees_35 ?_
    refine g_istore F (lv2 := [(6, _), (5, _), (0, _), (1, _), (2, _), (3, _), (4, _)]) dL_sees_36 (by decide) rfl ?_
    refine g_aload_n F dL_sees_38 rfl 5 rfl ?_
    refine g_aload F dL_sees_39 6 rfl ?_
    refine g_bipush F (v := 18) dL_sees_41 (by decide +kernel) ?_
    refine g_iaload (r := 711) F a711 (18) rfl (by omega) (by decide) dL_sees_43 ?_
    refine g_top (y := nI t) h18 ?_
    refine g_iconst F (v := 4) dL_sees_44 (by decide) ?_
    refine g_idiv F dL_sees_45 (by decide) ?_
    refine g_top (pk_div (a := t) (d := 4) (by omega) (by omega) (by omega)) ?_
    refine g_iaload (r := 710) F a710 ((t / 4)) rfl (by omega) (by decide) dL_sees_46 ?_
    refine g_iconst F (v := 3) dL_sees_47 (by decide) ?_
    refine g_icmp_lt F 61 dL_sees_48 (by decide) (fun h1 => ?_) (fun h1 => ?_)
    · refine g_iload F dL_sees_61 0 rfl ?_
      refine g_if_ge F 70 dL_sees_63 (by decide) (fun h3 => ?_) (fun h3 => ?_)
      · refine g_iload F dL_sees_70 0 rfl ?_
        refine g_iconst F (v := 5) dL_sees_72 (by decide) ?_
        refine g_icmp_le F 80 dL_sees_73 (by decide) (fun h4 => ?_) (fun h4 => ?_)
        · refine g_iload F dL_sees_80 0 rfl ?_
          exact K _ _ _ _ dL_sees_82 rfl ⟨congrArg (fun z => some (Value.int z)) (by first | exact (hS9.trans (seA h1 h2)).symm | exact (hS9.trans (seB0 (Or.inl h1) h3)).symm | exact (hS9.trans (seB0 (Or.inr h2) h3)).symm | exact (hS9.trans (seB1 (Or.inl h1) h3 h4)).symm | exact (hS9.trans (seB1 (Or.inr h2) h3 h4)).symm | exact (hS9.trans (seB2 (Or.inl h1) h3 h4)).symm | exact (hS9.trans (seB2 (Or.inr h2) h3 h4)).symm), rfl⟩
        · refine g_iconst F (v := 5) dL_sees_76 (by decide) ?_
          refine g_goto F 82 dL_sees_77 (by decide) ?_
          exact K _ _ _ _ dL_sees_82 rfl ⟨congrArg (fun z => some (Value.int z)) (by first | exact (hS9.trans (seA h1 h2)).symm | exact (hS9.trans (seB0 (Or.inl h1) h3)).symm | exact (hS9.trans (seB0 (Or.inr h2) h3)).symm | exact (hS9.trans (seB1 (Or.inl h1) h3 h4)).symm | exact (hS9.trans (seB1 (Or.inr h2) h3 h4)).symm | exact (hS9.trans (seB2 (Or.inl h1) h3 h4)).symm | exact (hS9.trans (seB2 (Or.inr h2) h3 h4)).symm), rfl⟩
      · refine g_iconst F (v := 0) dL_sees_66 (by decide) ?_
        refine g_goto F 82 dL_sees_67 (by decide) ?_
        exact K _ _ _ _ dL_sees_82 rfl ⟨congrArg (fun z => some (Value.int z)) (by first | exact (hS9.trans (seA h1 h2)).symm | exact (hS9.trans (seB0 (Or.inl h1) h3)).symm | exact (hS9.trans (seB0 (Or.inr h2) h3)).symm | exact (hS9.trans (seB1 (Or.inl h1) h3 h4)).symm | exact (hS9.trans (seB1 (Or.inr h2) h3 h4)).symm | exact (hS9.trans (seB2 (Or.inl h1) h3 h4)).symm | exact (hS9.trans (seB2 (Or.inr h2) h3 h4)).symm), rfl⟩
    · refine g_iload F dL_sees_51 1 rfl ?_
      refine g_iconst F (v := 2) dL_sees_53 (by decide) ?_
      refine g_icmp_gt F 61 dL_sees_54 (by decide) (fun h2 => ?_) (fun h2 => ?_)
      · refine g_iload F dL_sees_61 0 rfl ?_
        refine g_if_ge F 70 dL_sees_63 (by decide) (fun h3 => ?_) (fun h3 => ?_)
        · refine g_iload F dL_sees_70 0 rfl ?_
          refine g_iconst F (v := 5) dL_sees_72 (by decide) ?_
          refine g_icmp_le F 80 dL_sees_73 (by decide) (fun h4 => ?_) (fun h4 => ?_)
          · refine g_iload F dL_sees_80 0 rfl ?_
            exact K _ _ _ _ dL_sees_82 rfl ⟨congrArg (fun z => some (Value.int z)) (by first | exact (hS9.trans (seA h1 h2)).symm | exact (hS9.trans (seB0 (Or.inl h1) h3)).symm | exact (hS9.trans (seB0 (Or.inr h2) h3)).symm | exact (hS9.trans (seB1 (Or.inl h1) h3 h4)).symm | exact (hS9.trans (seB1 (Or.inr h2) h3 h4)).symm | exact (hS9.trans (seB2 (Or.inl h1) h3 h4)).symm | exact (hS9.trans (seB2 (Or.inr h2) h3 h4)).symm), rfl⟩
          · refine g_iconst F (v := 5) dL_sees_76 (by decide) ?_
            refine g_goto F 82 dL_sees_77 (by decide) ?_
            exact K _ _ _ _ dL_sees_82 rfl ⟨congrArg (fun z => some (Value.int z)) (by first | exact (hS9.trans (seA h1 h2)).symm | exact (hS9.trans (seB0 (Or.inl h1) h3)).symm | exact (hS9.trans (seB0 (Or.inr h2) h3)).symm | exact (hS9.trans (seB1 (Or.inl h1) h3 h4)).symm | exact (hS9.trans (seB1 (Or.inr h2) h3 h4)).symm | exact (hS9.trans (seB2 (Or.inl h1) h3 h4)).symm | exact (hS9.trans (seB2 (Or.inr h2) h3 h4)).symm), rfl⟩
        · refine g_iconst F (v := 0) dL_sees_66 (by decide) ?_
          refine g_goto F 82 dL_sees_67 (by decide) ?_
          exact K _ _ _ _ dL_sees_82 rfl ⟨congrArg (fun z => some (Value.int z)) (by first | exact (hS9.trans (seA h1 h2)).symm | exact (hS9.trans (seB0 (Or.inl h1) h3)).symm | exact (hS9.trans (seB0 (Or.inr h2) h3)).symm | exact (hS9.trans (seB1 (Or.inl h1) h3 h4)).symm | exact (hS9.trans (seB1 (Or.inr h2) h3 h4)).symm | exact (hS9.trans (seB2 (Or.inl h1) h3 h4)).symm | exact (hS9.trans (seB2 (Or.inr h2) h3 h4)).symm), rfl⟩
      · refine g_iconst F (v := 0) dL_sees_57 (by decide) ?_
        refine g_goto F 82 dL_sees_58 (by decide) ?_
        exact K _ _ _ _ dL_sees_82 rfl ⟨congrArg (fun z => some (Value.int z)) (by first | exact (hS9.trans (seA h1 h2)).symm | exact (hS9.trans (seB0 (Or.inl h1) h3)).symm | exact (hS9.trans (seB0 (Or.inr h2) h3)).symm | exact (hS9.trans (seB1 (Or.inl h1) h3 h4)).symm | exact (hS9.trans (seB1 (Or.inr h2) h3 h4)).symm | exact (hS9.trans (seB2 (Or.inl h1) h3 h4)).symm | exact (hS9.trans (seB2 (Or.inr h2) h3 h4)).symm), rfl⟩

abbrev rmL_reading : Room := { frames := 2, cells := 0, slots := 0, locals := 50 }
set_option maxHeartbeats 4000000 in
set_option maxRecDepth 100000 in
theorem kL_reading (l : Launch) {M : Mm} {f : Nat → Int32} {t k : Nat} (hC : LC (M 709) f) (hS : SH f) (hG : LG (M 710) f) (hQ : LQ (M 711) f) (h18 : M 711 18 = nI t) (h74 : f 74 = nI t) (hk : k < 8) (ht : t < 96) : Ct l yL_reading wsL_reading rmL_reading (fun B => [.int (nI k), .ref (B + 709), .ref (B + 710), .ref (B + 711)]) M (fun _ v u => v = some (.int (RDF f t k 3)) ∧ u = M) := by
  refine Ct.ofI (own := RL) (by decide +kernel) rfl rfl (fun B => Nat.le_of_ble_eq_true rfl) ?_
  intro pp ee ss mm aa bb me c9 DD ca B Tl AA QQ F K
  show G pp l ee rmL_reading ss mm aa bb me c9 QQ DD ca B Tl AA 7 0 0 M 0 [(0, .int (nI k)), (1, .ref (B + 709)), (2, .ref (B + 710)), (3, .ref (B + 711))] []
  refine g_iconst F (v := -1) dL_reading_0 (by decide) ?_
  refine g_istore F (lv2 := [(4, _), (0, _), (1, _), (2, _), (3, _)]) dL_reading_1 (by decide) rfl ?_
  refine g_iconst F (v := 0) dL_reading_3 (by decide) ?_
  refine g_istore F (lv2 := [(5, _), (4, _), (0, _), (1, _), (2, _), (3, _)]) dL_reading_4 (by decide) rfl ?_
  have LP : ∀ (niq iq : Nat), iq + niq = 3 → G pp l ee rmL_reading ss mm aa bb me c9 QQ DD ca B Tl AA 7 0 0 (M) 6 [(5, .int (nI iq)), (4, .int (RDF f t k iq)), (0, .int (nI k)), (1, .ref (B + 709)), (2, .ref (B + 710)), (3, .ref (B + 711))] [] := by
    intro niq
    induction niq with
    | zero =>
      intro iq hniq
      refine g_iload F dL_reading_6 0 rfl ?_
      refine g_iconst F (v := 3) dL_reading_8 (by decide) ?_
      refine g_icmpN_ge F 60 dL_reading_9 (by decide) (iq) (3) rfl rfl (by omega) (by omega) (fun hciq => ?_) (fun hciq => ?_)
      · obtain rfl : iq = 3 := by omega
        refine g_iload F dL_reading_60 1 rfl ?_
        exact K _ _ _ _ dL_reading_62 rfl ⟨rfl, rfl⟩
      · exact absurd hciq (by omega)
    | succ niq ihiq =>
      intro iq hniq
      refine g_iload F dL_reading_6 0 rfl ?_
      refine g_iconst F (v := 3) dL_reading_8 (by decide) ?_
      refine g_icmpN_ge F 60 dL_reading_9 (by decide) (iq) (3) rfl rfl (by omega) (by omega) (fun hciq => ?_) (fun hciq => ?_)
      · exact absurd hciq (by omega)
      · refine g_aload_n F dL_reading_12 rfl 5 rfl ?_
        refine g_bipush F (v := 6) dL_reading_13 (by decide +kernel) ?_
        refine g_iload F dL_reading_15 0 rfl ?_
        refine g_iadd F dL_reading_17 ?_
        refine g_top (nI_add (6) (iq)) ?_
        refine g_iaload (r := 711) F a711 ((6 + iq)) rfl (by omega) (by decide) dL_reading_18 ?_
        refine g_iload_n F dL_reading_19 rfl 2 rfl ?_
        refine g_icmp_ne F 35 dL_reading_20 (by decide) (fun h1 => ?_) (fun h1 => ?_)
        · try replace h1 : ¬ M 711 (6 + iq) = nI k := h1
          refine g_iconst F (v := -1) dL_reading_35 (by decide) ?_
          refine g_istore F (lv2 := [(6, _), (5, _), (4, _), (0, _), (1, _), (2, _), (3, _)]) dL_reading_36 (by decide) rfl ?_
          refine g_iload F dL_reading_38 0 rfl ?_
          refine g_iload F dL_reading_40 2 rfl ?_
          refine g_icmp_le F 50 dL_reading_42 (by decide) (fun h2 => ?_) (fun h2 => ?_)
          · refine g_iload F dL_reading_50 2 rfl ?_
            refine g_istore F (lv2 := [(4, _), (6, _), (5, _), (0, _), (1, _), (2, _), (3, _)]) dL_reading_52 (by decide) rfl ?_
            refine g_iinc F (lv2 := [(5, _), (4, _), (6, _), (0, _), (1, _), (2, _), (3, _)]) dL_reading_54 2 rfl (nI_1 _) (by decide) rfl ?_
            refine g_goto F 6 dL_reading_57 (by decide) ?_
            refine g_lv (lv2 := [(5, _), (4, _), (0, _), (1, _), (2, _), (3, _)]) [0, 1, 3, 4, 5, 6] rfl ?_
            exact g_is rfl (by first | rw [RDF_a hQ (by omega) h1 h2] | rw [RDF_b hQ (by omega) h1 h2] | rw [RDF_c hQ (by omega) h1 h2] | rw [RDF_d hQ (by omega) h1 h2]) (ihiq (iq + 1) (by omega))
          · refine g_iload F dL_reading_45 0 rfl ?_
            refine g_goto F 52 dL_reading_47 (by decide) ?_
            refine g_istore F (lv2 := [(4, _), (6, _), (5, _), (0, _), (1, _), (2, _), (3, _)]) dL_reading_52 (by decide) rfl ?_
            refine g_iinc F (lv2 := [(5, _), (4, _), (6, _), (0, _), (1, _), (2, _), (3, _)]) dL_reading_54 2 rfl (nI_1 _) (by decide) rfl ?_
            refine g_goto F 6 dL_reading_57 (by decide) ?_
            refine g_lv (lv2 := [(5, _), (4, _), (0, _), (1, _), (2, _), (3, _)]) [0, 1, 3, 4, 5, 6] rfl ?_
            exact g_is rfl (by first | rw [RDF_a hQ (by omega) h1 h2] | rw [RDF_b hQ (by omega) h1 h2] | rw [RDF_c hQ (by omega) h1 h2] | rw [RDF_d hQ (by omega) h1 h2]) (ihiq (iq + 1) (by omega))
        · refine g_iload F dL_reading_23 0 rfl ?_
          refine g_iload_n F dL_reading_25 rfl 2 rfl ?_
          refine g_aload_n F dL_reading_26 rfl 3 rfl ?_
          refine g_aload_n F dL_reading_27 rfl 4 rfl ?_
          refine g_aload_n F dL_reading_28 rfl 5 rfl ?_
          refine g_callS F (kL_sees l (f := f) hC hS hG hQ h18 h74 (e := iq) (by omega) hk ht) (va_cwS 5 F.1.2.2.2.2 gL_reading_L_sees rfl rfl rfl (by decide +kernel) ⟨Nat.le_of_ble_eq_true rfl, Nat.le_of_ble_eq_true rfl⟩) rfl rfl rfl (Nat.le_of_ble_eq_true rfl) dL_reading_29 ⟨Nat.le_of_ble_eq_true rfl, Nat.le_of_ble_eq_true rfl⟩ (g_det ?_)
          refine g_goto F 36 dL_reading_32 (by decide) ?_
          refine g_istore F (lv2 := [(6, _), (5, _), (4, _), (0, _), (1, _), (2, _), (3, _)]) dL_reading_36 (by decide) rfl ?_
          refine g_iload F dL_reading_38 0 rfl ?_
          refine g_iload F dL_reading_40 2 rfl ?_
          refine g_icmp_le F 50 dL_reading_42 (by decide) (fun h2 => ?_) (fun h2 => ?_)
          · refine g_iload F dL_reading_50 2 rfl ?_
            refine g_istore F (lv2 := [(4, _), (6, _), (5, _), (0, _), (1, _), (2, _), (3, _)]) dL_reading_52 (by decide) rfl ?_
            refine g_iinc F (lv2 := [(5, _), (4, _), (6, _), (0, _), (1, _), (2, _), (3, _)]) dL_reading_54 2 rfl (nI_1 _) (by decide) rfl ?_
            refine g_goto F 6 dL_reading_57 (by decide) ?_
            refine g_lv (lv2 := [(5, _), (4, _), (0, _), (1, _), (2, _), (3, _)]) [0, 1, 3, 4, 5, 6] rfl ?_
            exact g_is rfl (by first | rw [RDF_a hQ (by omega) h1 h2] | rw [RDF_b hQ (by omega) h1 h2] | rw [RDF_c hQ (by omega) h1 h2] | rw [RDF_d hQ (by omega) h1 h2]) (ihiq (iq + 1) (by omega))
          · refine g_iload F dL_reading_45 0 rfl ?_
            refine g_goto F 52 dL_reading_47 (by decide) ?_
            refine g_istore F (lv2 := [(4, _), (6, _), (5, _), (0, _), (1, _), (2, _), (3, _)]) dL_reading_52 (by decide) rfl ?_
            refine g_iinc F (lv2 := [(5, _), (4, _), (6, _), (0, _), (1, _), (2, _), (3, _)]) dL_reading_54 2 rfl (nI_1 _) (by decide) rfl ?_
            refine g_goto F 6 dL_reading_57 (by decide) ?_
            refine g_lv (lv2 := [(5, _), (4, _), (0, _), (1, _), (2, _), (3, _)]) [0, 1, 3, 4, 5, 6] rfl ?_
            exact g_is rfl (by first | rw [RDF_a hQ (by omega) h1 h2] | rw [RDF_b hQ (by omega) h1 h2] | rw [RDF_c hQ (by omega) h1 h2] | rw [RDF_d hQ (by omega) h1 h2]) (ihiq (iq + 1) (by omega))
  refine g_lv (lv2 := [(5, _), (4, _), (0, _), (1, _), (2, _), (3, _)]) [0, 1, 2, 3, 4, 5] rfl ?_
  exact g_is rfl rfl (LP (3 - 0) (0) (by omega))

abbrev rmL_why : Room := { frames := 0, cells := 0, slots := 0, locals := 0 }
set_option maxHeartbeats 4000000 in
set_option maxRecDepth 100000 in
theorem kL_why (l : Launch) {M : Mm} {f : Nat → Int32} {t k p : Nat} (h18 : M 711 18 = nI t) (h16 : M 711 16 = nI p) (h15 : M 711 15 = f 71) (hp8 : p ≤ 8) (hpt : p ≤ t + 1) (hk : k < 8) (ht : t < 96) (hK : ∀ s, s ≤ t → t < s + 8 → M 710 (24 + s % 8) = f (1708 + s)) (hR : ∀ s, s ≤ t → t < s + 8 → M 712 (8 * k + s % 8) = f (940 + 96 * k + s)) : Ct l yL_why wsL_why rmL_why (fun B => [.int (nI k), .ref (B + 710), .ref (B + 711), .ref (B + 712)]) M (fun _ v u => v = some (.int (whR f k (t + 1 - p) p)) ∧ u = M) := by
  refine Ct.ofI (own := RL) (by decide +kernel) rfl rfl (fun B => Nat.le_of_ble_eq_true rfl) ?_
  intro pp ee ss mm aa bb me c9 DD ca B Tl AA QQ F K
  show G pp l ee rmL_why ss mm aa bb me c9 QQ DD ca B Tl AA 8 0 0 M 0 [(0, .int (nI k)), (1, .ref (B + 710)), (2, .ref (B + 711)), (3, .ref (B + 712))] []
  have hK9 : ∀ b, b < p → M 710 (24 + ((t + 8) - b) % 8) = f (1708 + (t - b)) := fun b hb => by rw [← hK (t - b) (by omega) (by omega)]; exact congrArg (M 710) (by omega)
  have hR9 : ∀ b, b < p → M 712 ((8 * k) + ((t + 8) - b) % 8) = f (940 + 96 * k + (t - b)) := fun b hb => by rw [← hR (t - b) (by omega) (by omega)]; exact congrArg (M 712) (by omega)
  refine g_iconst F (v := 0) dL_why_0 (by decide) ?_
  refine g_istore F (lv2 := [(4, _), (0, _), (1, _), (2, _), (3, _)]) dL_why_1 (by decide) rfl ?_
  refine g_iconst F (v := 0) dL_why_3 (by decide) ?_
  refine g_istore F (lv2 := [(5, _), (4, _), (0, _), (1, _), (2, _), (3, _)]) dL_why_4 (by decide) rfl ?_
  refine g_iconst F (v := 0) dL_why_6 (by decide) ?_
  refine g_istore F (lv2 := [(6, _), (5, _), (4, _), (0, _), (1, _), (2, _), (3, _)]) dL_why_7 (by decide) rfl ?_
  have LP : ∀ (niq iq : Nat), iq + niq = p → G pp l ee rmL_why ss mm aa bb me c9 QQ DD ca B Tl AA 8 0 0 (M) 9 [(6, .int (nI iq)), (4, .int (WG f t iq)), (5, .int (WL f k t iq)), (0, .int (nI k)), (1, .ref (B + 710)), (2, .ref (B + 711)), (3, .ref (B + 712))] [] := by
    intro niq
    induction niq with
    | zero =>
      intro iq hniq
      refine g_iload F dL_why_9 0 rfl ?_
      refine g_aload_n F dL_why_11 rfl 5 rfl ?_
      refine g_bipush F (v := 16) dL_why_12 (by decide +kernel) ?_
      refine g_iaload (r := 711) F a711 (16) rfl (by omega) (by decide) dL_why_14 ?_
      refine g_top (y := nI p) h16 ?_
      refine g_icmpN_ge F 90 dL_why_15 (by decide) (iq) (p) rfl rfl (by omega) (by omega) (fun hciq => ?_) (fun hciq => ?_)
      · obtain rfl : iq = p := by omega
        refine g_iload F dL_why_90 1 rfl ?_
        refine g_if_eq F 99 dL_why_92 (by decide) (fun h5 => ?_) (fun h5 => ?_)
        · refine g_iload F dL_why_99 2 rfl ?_
          refine g_if_eq F 108 dL_why_101 (by decide) (fun h6 => ?_) (fun h6 => ?_)
          · refine g_iconst F (v := 2) dL_why_108 (by decide) ?_
            exact K _ _ _ _ dL_why_109 rfl ⟨congrArg (fun z => some (Value.int z)) (by rw [← whW_eq hpt]; unfold whW; first | exact (if_neg h5).symm | exact ((if_pos h5).trans (if_neg h6)).symm | exact ((if_pos h5).trans (if_pos h6)).symm), rfl⟩
          · refine g_iconst F (v := 1) dL_why_104 (by decide) ?_
            refine g_goto F 109 dL_why_105 (by decide) ?_
            exact K _ _ _ _ dL_why_109 rfl ⟨congrArg (fun z => some (Value.int z)) (by rw [← whW_eq hpt]; unfold whW; first | exact (if_neg h5).symm | exact ((if_pos h5).trans (if_neg h6)).symm | exact ((if_pos h5).trans (if_pos h6)).symm), rfl⟩
        · refine g_iconst F (v := 0) dL_why_95 (by decide) ?_
          refine g_goto F 109 dL_why_96 (by decide) ?_
          exact K _ _ _ _ dL_why_109 rfl ⟨congrArg (fun z => some (Value.int z)) (by rw [← whW_eq hpt]; unfold whW; first | exact (if_neg h5).symm | exact ((if_pos h5).trans (if_neg h6)).symm | exact ((if_pos h5).trans (if_pos h6)).symm), rfl⟩
      · exact absurd hciq (by omega)
    | succ niq ihiq =>
      intro iq hniq
      have hb9 : iq < p := by omega
      refine g_iload F dL_why_9 0 rfl ?_
      refine g_aload_n F dL_why_11 rfl 5 rfl ?_
      refine g_bipush F (v := 16) dL_why_12 (by decide +kernel) ?_
      refine g_iaload (r := 711) F a711 (16) rfl (by omega) (by decide) dL_why_14 ?_
      refine g_top (y := nI p) h16 ?_
      refine g_icmpN_ge F 90 dL_why_15 (by decide) (iq) (p) rfl rfl (by omega) (by omega) (fun hciq => ?_) (fun hciq => ?_)
      · exact absurd hciq (by omega)
      · refine g_aload_n F dL_why_18 rfl 5 rfl ?_
        refine g_bipush F (v := 18) dL_why_19 (by decide +kernel) ?_
        refine g_iaload (r := 711) F a711 (18) rfl (by omega) (by decide) dL_why_21 ?_
        refine g_top (y := nI t) h18 ?_
        refine g_bipush F (v := 8) dL_why_22 (by decide +kernel) ?_
        refine g_iadd F dL_why_24 ?_
        refine g_top (nI_add (t) (8)) ?_
        refine g_iload F dL_why_25 0 rfl ?_
        refine g_isub F dL_why_27 ?_
        refine g_top (pk_sub (a := (t + 8)) (b := iq) (by omega)) ?_
        refine g_bipush F (v := 8) dL_why_28 (by decide +kernel) ?_
        refine g_irem F dL_why_30 (by decide) ?_
        refine g_top (pk_rem (a := ((t + 8) - iq)) (d := 8) (by omega) (by omega) (by omega)) ?_
        refine g_istore F (lv2 := [(7, _), (6, _), (4, _), (5, _), (0, _), (1, _), (2, _), (3, _)]) dL_why_31 (by decide) rfl ?_
        refine g_iload F dL_why_33 2 rfl ?_
        refine g_if_ne F 49 dL_why_35 (by decide) (fun h1 => ?_) (fun h1 => ?_)
        · refine g_iconst F (v := 1) dL_why_49 (by decide) ?_
          refine g_goto F 54 dL_why_50 (by decide) ?_
          refine g_istore F (lv2 := [(4, _), (7, _), (6, _), (5, _), (0, _), (1, _), (2, _), (3, _)]) dL_why_54 (by decide) rfl ?_
          refine g_iload F dL_why_56 3 rfl ?_
          refine g_if_ne F 77 dL_why_58 (by decide) (fun h3 => ?_) (fun h3 => ?_)
          · refine g_iconst F (v := 1) dL_why_77 (by decide) ?_
            refine g_goto F 82 dL_why_78 (by decide) ?_
            refine g_istore F (lv2 := [(5, _), (4, _), (7, _), (6, _), (0, _), (1, _), (2, _), (3, _)]) dL_why_82 (by decide) rfl ?_
            refine g_iinc F (lv2 := [(6, _), (5, _), (4, _), (7, _), (0, _), (1, _), (2, _), (3, _)]) dL_why_84 3 rfl (nI_1 _) (by decide) rfl ?_
            refine g_goto F 9 dL_why_87 (by decide) ?_
            refine g_lv (lv2 := [(6, _), (4, _), (5, _), (0, _), (1, _), (2, _), (3, _)]) [0, 2, 1, 4, 5, 6, 7] rfl ?_
            exact g_is rfl (by first | rw [WG_a h1, WL_a h3] | rw [WG_a h1, WL_b h3 h4] | rw [WG_a h1, WL_c h3 h4] | rw [WG_b h1 h2, WL_a h3] | rw [WG_b h1 h2, WL_b h3 h4] | rw [WG_b h1 h2, WL_c h3 h4] | rw [WG_c h1 h2, WL_a h3] | rw [WG_c h1 h2, WL_b h3 h4] | rw [WG_c h1 h2, WL_c h3 h4]) (ihiq (iq + 1) (by omega))
          · refine g_aload_n F dL_why_61 rfl 7 rfl ?_
            refine g_bipush F (v := 8) dL_why_62 (by decide +kernel) ?_
            refine g_iload_n F dL_why_64 rfl 4 rfl ?_
            refine g_imul F dL_why_65 ?_
            refine g_top (pk_mul (8) (k)) ?_
            refine g_iload F dL_why_66 1 rfl ?_
            refine g_iadd F dL_why_68 ?_
            refine g_top (nI_add ((8 * k)) ((((t + 8) - iq) % 8))) ?_
            refine g_iaload (r := 712) F a712 (((8 * k) + (((t + 8) - iq) % 8))) rfl (by omega) (by decide) dL_why_69 ?_
            refine g_top (y := f (940 + 96 * k + (t - iq))) (hR9 iq hb9) ?_
            refine g_aload_n F dL_why_70 rfl 6 rfl ?_
            refine g_bipush F (v := 15) dL_why_71 (by decide +kernel) ?_
            refine g_iaload (r := 711) F a711 (15) rfl (by omega) (by decide) dL_why_73 ?_
            refine g_top (y := f 71) h15 ?_
            refine g_icmp_ge F 81 dL_why_74 (by decide) (fun h4 => ?_) (fun h4 => ?_)
            · refine g_iconst F (v := 0) dL_why_81 (by decide) ?_
              refine g_istore F (lv2 := [(5, _), (4, _), (7, _), (6, _), (0, _), (1, _), (2, _), (3, _)]) dL_why_82 (by decide) rfl ?_
              refine g_iinc F (lv2 := [(6, _), (5, _), (4, _), (7, _), (0, _), (1, _), (2, _), (3, _)]) dL_why_84 3 rfl (nI_1 _) (by decide) rfl ?_
              refine g_goto F 9 dL_why_87 (by decide) ?_
              refine g_lv (lv2 := [(6, _), (4, _), (5, _), (0, _), (1, _), (2, _), (3, _)]) [0, 2, 1, 4, 5, 6, 7] rfl ?_
              exact g_is rfl (by first | rw [WG_a h1, WL_a h3] | rw [WG_a h1, WL_b h3 h4] | rw [WG_a h1, WL_c h3 h4] | rw [WG_b h1 h2, WL_a h3] | rw [WG_b h1 h2, WL_b h3 h4] | rw [WG_b h1 h2, WL_c h3 h4] | rw [WG_c h1 h2, WL_a h3] | rw [WG_c h1 h2, WL_b h3 h4] | rw [WG_c h1 h2, WL_c h3 h4]) (ihiq (iq + 1) (by omega))
            · refine g_iconst F (v := 1) dL_why_77 (by decide) ?_
              refine g_goto F 82 dL_why_78 (by decide) ?_
              refine g_istore F (lv2 := [(5, _), (4, _), (7, _), (6, _), (0, _), (1, _), (2, _), (3, _)]) dL_why_82 (by decide) rfl ?_
              refine g_iinc F (lv2 := [(6, _), (5, _), (4, _), (7, _), (0, _), (1, _), (2, _), (3, _)]) dL_why_84 3 rfl (nI_1 _) (by decide) rfl ?_
              refine g_goto F 9 dL_why_87 (by decide) ?_
              refine g_lv (lv2 := [(6, _), (4, _), (5, _), (0, _), (1, _), (2, _), (3, _)]) [0, 2, 1, 4, 5, 6, 7] rfl ?_
              exact g_is rfl (by first | rw [WG_a h1, WL_a h3] | rw [WG_a h1, WL_b h3 h4] | rw [WG_a h1, WL_c h3 h4] | rw [WG_b h1 h2, WL_a h3] | rw [WG_b h1 h2, WL_b h3 h4] | rw [WG_b h1 h2, WL_c h3 h4] | rw [WG_c h1 h2, WL_a h3] | rw [WG_c h1 h2, WL_b h3 h4] | rw [WG_c h1 h2, WL_c h3 h4]) (ihiq (iq + 1) (by omega))
        · refine g_aload_n F dL_why_38 rfl 5 rfl ?_
          refine g_bipush F (v := 24) dL_why_39 (by decide +kernel) ?_
          refine g_iload F dL_why_41 0 rfl ?_
          refine g_iadd F dL_why_43 ?_
          refine g_top (nI_add (24) ((((t + 8) - iq) % 8))) ?_
          refine g_iaload (r := 710) F a710 ((24 + (((t + 8) - iq) % 8))) rfl (by omega) (by decide) dL_why_44 ?_
          refine g_top (y := f (1708 + (t - iq))) (hK9 iq hb9) ?_
          refine g_iconst F (v := 3) dL_why_45 (by decide) ?_
          refine g_icmp_lt F 53 dL_why_46 (by decide) (fun h2 => ?_) (fun h2 => ?_)
          · refine g_iconst F (v := 0) dL_why_53 (by decide) ?_
            refine g_istore F (lv2 := [(4, _), (7, _), (6, _), (5, _), (0, _), (1, _), (2, _), (3, _)]) dL_why_54 (by decide) rfl ?_
            refine g_iload F dL_why_56 3 rfl ?_
            refine g_if_ne F 77 dL_why_58 (by decide) (fun h3 => ?_) (fun h3 => ?_)
            · refine g_iconst F (v := 1) dL_why_77 (by decide) ?_
              refine g_goto F 82 dL_why_78 (by decide) ?_
              refine g_istore F (lv2 := [(5, _), (4, _), (7, _), (6, _), (0, _), (1, _), (2, _), (3, _)]) dL_why_82 (by decide) rfl ?_
              refine g_iinc F (lv2 := [(6, _), (5, _), (4, _), (7, _), (0, _), (1, _), (2, _), (3, _)]) dL_why_84 3 rfl (nI_1 _) (by decide) rfl ?_
              refine g_goto F 9 dL_why_87 (by decide) ?_
              refine g_lv (lv2 := [(6, _), (4, _), (5, _), (0, _), (1, _), (2, _), (3, _)]) [0, 2, 1, 4, 5, 6, 7] rfl ?_
              exact g_is rfl (by first | rw [WG_a h1, WL_a h3] | rw [WG_a h1, WL_b h3 h4] | rw [WG_a h1, WL_c h3 h4] | rw [WG_b h1 h2, WL_a h3] | rw [WG_b h1 h2, WL_b h3 h4] | rw [WG_b h1 h2, WL_c h3 h4] | rw [WG_c h1 h2, WL_a h3] | rw [WG_c h1 h2, WL_b h3 h4] | rw [WG_c h1 h2, WL_c h3 h4]) (ihiq (iq + 1) (by omega))
            · refine g_aload_n F dL_why_61 rfl 7 rfl ?_
              refine g_bipush F (v := 8) dL_why_62 (by decide +kernel) ?_
              refine g_iload_n F dL_why_64 rfl 4 rfl ?_
              refine g_imul F dL_why_65 ?_
              refine g_top (pk_mul (8) (k)) ?_
              refine g_iload F dL_why_66 1 rfl ?_
              refine g_iadd F dL_why_68 ?_
              refine g_top (nI_add ((8 * k)) ((((t + 8) - iq) % 8))) ?_
              refine g_iaload (r := 712) F a712 (((8 * k) + (((t + 8) - iq) % 8))) rfl (by omega) (by decide) dL_why_69 ?_
              refine g_top (y := f (940 + 96 * k + (t - iq))) (hR9 iq hb9) ?_
              refine g_aload_n F dL_why_70 rfl 6 rfl ?_
              refine g_bipush F (v := 15) dL_why_71 (by decide +kernel) ?_
              refine g_iaload (r := 711) F a711 (15) rfl (by omega) (by decide) dL_why_73 ?_
              refine g_top (y := f 71) h15 ?_
              refine g_icmp_ge F 81 dL_why_74 (by decide) (fun h4 => ?_) (fun h4 => ?_)
              · refine g_iconst F (v := 0) dL_why_81 (by decide) ?_
                refine g_istore F (lv2 := [(5, _), (4, _), (7, _), (6, _), (0, _), (1, _), (2, _), (3, _)]) dL_why_82 (by decide) rfl ?_
                refine g_iinc F (lv2 := [(6, _), (5, _), (4, _), (7, _), (0, _), (1, _), (2, _), (3, _)]) dL_why_84 3 rfl (nI_1 _) (by decide) rfl ?_
                refine g_goto F 9 dL_why_87 (by decide) ?_
                refine g_lv (lv2 := [(6, _), (4, _), (5, _), (0, _), (1, _), (2, _), (3, _)]) [0, 2, 1, 4, 5, 6, 7] rfl ?_
                exact g_is rfl (by first | rw [WG_a h1, WL_a h3] | rw [WG_a h1, WL_b h3 h4] | rw [WG_a h1, WL_c h3 h4] | rw [WG_b h1 h2, WL_a h3] | rw [WG_b h1 h2, WL_b h3 h4] | rw [WG_b h1 h2, WL_c h3 h4] | rw [WG_c h1 h2, WL_a h3] | rw [WG_c h1 h2, WL_b h3 h4] | rw [WG_c h1 h2, WL_c h3 h4]) (ihiq (iq + 1) (by omega))
              · refine g_iconst F (v := 1) dL_why_77 (by decide) ?_
                refine g_goto F 82 dL_why_78 (by decide) ?_
                refine g_istore F (lv2 := [(5, _), (4, _), (7, _), (6, _), (0, _), (1, _), (2, _), (3, _)]) dL_why_82 (by decide) rfl ?_
                refine g_iinc F (lv2 := [(6, _), (5, _), (4, _), (7, _), (0, _), (1, _), (2, _), (3, _)]) dL_why_84 3 rfl (nI_1 _) (by decide) rfl ?_
                refine g_goto F 9 dL_why_87 (by decide) ?_
                refine g_lv (lv2 := [(6, _), (4, _), (5, _), (0, _), (1, _), (2, _), (3, _)]) [0, 2, 1, 4, 5, 6, 7] rfl ?_
                exact g_is rfl (by first | rw [WG_a h1, WL_a h3] | rw [WG_a h1, WL_b h3 h4] | rw [WG_a h1, WL_c h3 h4] | rw [WG_b h1 h2, WL_a h3] | rw [WG_b h1 h2, WL_b h3 h4] | rw [WG_b h1 h2, WL_c h3 h4] | rw [WG_c h1 h2, WL_a h3] | rw [WG_c h1 h2, WL_b h3 h4] | rw [WG_c h1 h2, WL_c h3 h4]) (ihiq (iq + 1) (by omega))
          · refine g_iconst F (v := 1) dL_why_49 (by decide) ?_
            refine g_goto F 54 dL_why_50 (by decide) ?_
            refine g_istore F (lv2 := [(4, _), (7, _), (6, _), (5, _), (0, _), (1, _), (2, _), (3, _)]) dL_why_54 (by decide) rfl ?_
            refine g_iload F dL_why_56 3 rfl ?_
            refine g_if_ne F 77 dL_why_58 (by decide) (fun h3 => ?_) (fun h3 => ?_)
            · refine g_iconst F (v := 1) dL_why_77 (by decide) ?_
              refine g_goto F 82 dL_why_78 (by decide) ?_
              refine g_istore F (lv2 := [(5, _), (4, _), (7, _), (6, _), (0, _), (1, _), (2, _), (3, _)]) dL_why_82 (by decide) rfl ?_
              refine g_iinc F (lv2 := [(6, _), (5, _), (4, _), (7, _), (0, _), (1, _), (2, _), (3, _)]) dL_why_84 3 rfl (nI_1 _) (by decide) rfl ?_
              refine g_goto F 9 dL_why_87 (by decide) ?_
              refine g_lv (lv2 := [(6, _), (4, _), (5, _), (0, _), (1, _), (2, _), (3, _)]) [0, 2, 1, 4, 5, 6, 7] rfl ?_
              exact g_is rfl (by first | rw [WG_a h1, WL_a h3] | rw [WG_a h1, WL_b h3 h4] | rw [WG_a h1, WL_c h3 h4] | rw [WG_b h1 h2, WL_a h3] | rw [WG_b h1 h2, WL_b h3 h4] | rw [WG_b h1 h2, WL_c h3 h4] | rw [WG_c h1 h2, WL_a h3] | rw [WG_c h1 h2, WL_b h3 h4] | rw [WG_c h1 h2, WL_c h3 h4]) (ihiq (iq + 1) (by omega))
            · refine g_aload_n F dL_why_61 rfl 7 rfl ?_
              refine g_bipush F (v := 8) dL_why_62 (by decide +kernel) ?_
              refine g_iload_n F dL_why_64 rfl 4 rfl ?_
              refine g_imul F dL_why_65 ?_
              refine g_top (pk_mul (8) (k)) ?_
              refine g_iload F dL_why_66 1 rfl ?_
              refine g_iadd F dL_why_68 ?_
              refine g_top (nI_add ((8 * k)) ((((t + 8) - iq) % 8))) ?_
              refine g_iaload (r := 712) F a712 (((8 * k) + (((t + 8) - iq) % 8))) rfl (by omega) (by decide) dL_why_69 ?_
              refine g_top (y := f (940 + 96 * k + (t - iq))) (hR9 iq hb9) ?_
              refine g_aload_n F dL_why_70 rfl 6 rfl ?_
              refine g_bipush F (v := 15) dL_why_71 (by decide +kernel) ?_
              refine g_iaload (r := 711) F a711 (15) rfl (by omega) (by decide) dL_why_73 ?_
              refine g_top (y := f 71) h15 ?_
              refine g_icmp_ge F 81 dL_why_74 (by decide) (fun h4 => ?_) (fun h4 => ?_)
              · refine g_iconst F (v := 0) dL_why_81 (by decide) ?_
                refine g_istore F (lv2 := [(5, _), (4, _), (7, _), (6, _), (0, _), (1, _), (2, _), (3, _)]) dL_why_82 (by decide) rfl ?_
                refine g_iinc F (lv2 := [(6, _), (5, _), (4, _), (7, _), (0, _), (1, _), (2, _), (3, _)]) dL_why_84 3 rfl (nI_1 _) (by decide) rfl ?_
                refine g_goto F 9 dL_why_87 (by decide) ?_
                refine g_lv (lv2 := [(6, _), (4, _), (5, _), (0, _), (1, _), (2, _), (3, _)]) [0, 2, 1, 4, 5, 6, 7] rfl ?_
                exact g_is rfl (by first | rw [WG_a h1, WL_a h3] | rw [WG_a h1, WL_b h3 h4] | rw [WG_a h1, WL_c h3 h4] | rw [WG_b h1 h2, WL_a h3] | rw [WG_b h1 h2, WL_b h3 h4] | rw [WG_b h1 h2, WL_c h3 h4] | rw [WG_c h1 h2, WL_a h3] | rw [WG_c h1 h2, WL_b h3 h4] | rw [WG_c h1 h2, WL_c h3 h4]) (ihiq (iq + 1) (by omega))
              · refine g_iconst F (v := 1) dL_why_77 (by decide) ?_
                refine g_goto F 82 dL_why_78 (by decide) ?_
                refine g_istore F (lv2 := [(5, _), (4, _), (7, _), (6, _), (0, _), (1, _), (2, _), (3, _)]) dL_why_82 (by decide) rfl ?_
                refine g_iinc F (lv2 := [(6, _), (5, _), (4, _), (7, _), (0, _), (1, _), (2, _), (3, _)]) dL_why_84 3 rfl (nI_1 _) (by decide) rfl ?_
                refine g_goto F 9 dL_why_87 (by decide) ?_
                refine g_lv (lv2 := [(6, _), (4, _), (5, _), (0, _), (1, _), (2, _), (3, _)]) [0, 2, 1, 4, 5, 6, 7] rfl ?_
                exact g_is rfl (by first | rw [WG_a h1, WL_a h3] | rw [WG_a h1, WL_b h3 h4] | rw [WG_a h1, WL_c h3 h4] | rw [WG_b h1 h2, WL_a h3] | rw [WG_b h1 h2, WL_b h3 h4] | rw [WG_b h1 h2, WL_c h3 h4] | rw [WG_c h1 h2, WL_a h3] | rw [WG_c h1 h2, WL_b h3 h4] | rw [WG_c h1 h2, WL_c h3 h4]) (ihiq (iq + 1) (by omega))
  refine g_lv (lv2 := [(6, _), (4, _), (5, _), (0, _), (1, _), (2, _), (3, _)]) [0, 2, 1, 3, 4, 5, 6] rfl ?_
  exact g_is rfl rfl (LP (p - 0) (0) (by omega))

abbrev rmL_stand : Room := { frames := 0, cells := 0, slots := 0, locals := 0 }
set_option maxHeartbeats 4000000 in
set_option maxRecDepth 100000 in
theorem kL_stand (l : Launch) {M : Mm} {f : Nat → Int32} {k m : Nat} (h19 : M 711 19 = nI m) (hm : m ≤ 20) (hk : k < 8) (hN : LNn (M 714) f m) : Ct l yL_stand wsL_stand rmL_stand (fun B => [.int (nI k), .ref (B + 711), .ref (B + 714)]) M (fun _ v u => v = some (.int (STL f k m)) ∧ u = M) := by
  refine Ct.ofI (own := RL) (by decide +kernel) rfl rfl (fun B => Nat.le_of_ble_eq_true rfl) ?_
  intro pp ee ss mm aa bb me c9 DD ca B Tl AA QQ F K
  show G pp l ee rmL_stand ss mm aa bb me c9 QQ DD ca B Tl AA 5 0 0 M 0 [(0, .int (nI k)), (1, .ref (B + 711)), (2, .ref (B + 714))] []
  refine g_iconst F (v := 0) dL_stand_0 (by decide) ?_
  refine g_istore_n F (lv2 := [(3, _), (0, _), (1, _), (2, _)]) dL_stand_1 rfl (by decide) rfl ?_
  refine g_iconst F (v := 0) dL_stand_2 (by decide) ?_
  refine g_istore F (lv2 := [(4, _), (3, _), (0, _), (1, _), (2, _)]) dL_stand_3 (by decide) rfl ?_
  have LP : ∀ (niq iq : Nat), iq + niq = m → G pp l ee rmL_stand ss mm aa bb me c9 QQ DD ca B Tl AA 5 0 0 (M) 5 [(4, .int (nI iq)), (3, .int (STL f k iq)), (0, .int (nI k)), (1, .ref (B + 711)), (2, .ref (B + 714))] [] := by
    intro niq
    induction niq with
    | zero =>
      intro iq hniq
      refine g_iload F dL_stand_5 0 rfl ?_
      refine g_aload_n F dL_stand_7 rfl 3 rfl ?_
      refine g_bipush F (v := 19) dL_stand_8 (by decide +kernel) ?_
      refine g_iaload (r := 711) F a711 (19) rfl (by omega) (by decide) dL_stand_10 ?_
      refine g_top (y := nI m) h19 ?_
      refine g_icmpN_ge F 52 dL_stand_11 (by decide) (iq) (m) rfl rfl (by omega) (by omega) (fun hciq => ?_) (fun hciq => ?_)
      · obtain rfl : iq = m := by omega
        refine g_iload_n F dL_stand_52 rfl 1 rfl ?_
        exact K _ _ _ _ dL_stand_53 rfl ⟨rfl, rfl⟩
      · exact absurd hciq (by omega)
    | succ niq ihiq =>
      intro iq hniq
      obtain ⟨c9, s9, d9, w9, hc9, hs9, hd9, hw9, en, e1, e2, e3, e4⟩ := hN iq (by omega)
      refine g_iload F dL_stand_5 0 rfl ?_
      refine g_aload_n F dL_stand_7 rfl 3 rfl ?_
      refine g_bipush F (v := 19) dL_stand_8 (by decide +kernel) ?_
      refine g_iaload (r := 711) F a711 (19) rfl (by omega) (by decide) dL_stand_10 ?_
      refine g_top (y := nI m) h19 ?_
      refine g_icmpN_ge F 52 dL_stand_11 (by decide) (iq) (m) rfl rfl (by omega) (by omega) (fun hciq => ?_) (fun hciq => ?_)
      · exact absurd hciq (by omega)
      · refine g_iload_n F dL_stand_14 rfl 1 rfl ?_
        refine g_aload_n F dL_stand_15 rfl 4 rfl ?_
        refine g_iload F dL_stand_16 0 rfl ?_
        refine g_iaload (r := 714) F a714 (iq) rfl (by omega) (by decide) dL_stand_18 ?_
        refine g_top (y := nI (c9 + 8 * s9 + 256 * d9 + 1024 * w9)) en ?_
        refine g_bipush F (v := 7) dL_stand_19 (by decide +kernel) ?_
        refine g_iand F dL_stand_21 ?_
        refine g_top (y := nI c9) (un_c hc9 hs9 hd9 hw9) ?_
        refine g_iload_n F dL_stand_22 rfl 2 rfl ?_
        refine g_icmpN_ne F 43 dL_stand_23 (by decide) (c9) (k) rfl rfl (by omega) (by omega) (fun h1 => ?_) (fun h1 => ?_)
        · refine g_iconst F (v := 0) dL_stand_43 (by decide) ?_
          refine g_iadd F dL_stand_44 ?_
          refine g_istore_n F (lv2 := [(3, _), (4, _), (0, _), (1, _), (2, _)]) dL_stand_45 rfl (by decide) rfl ?_
          refine g_iinc F (lv2 := [(4, _), (3, _), (0, _), (1, _), (2, _)]) dL_stand_46 1 rfl (nI_1 _) (by decide) rfl ?_
          refine g_goto F 5 dL_stand_49 (by decide) ?_
          refine g_lv (lv2 := [(4, _), (3, _), (0, _), (1, _), (2, _)]) [0, 1, 2, 3, 4] rfl ?_
          exact g_is rfl (by first | rw [STL_n (d := d9) e1 hc9 hk h1] | rw [STL_m e1 e3 hd9 h2] | rw [STL_y e1 e3 h1 h2]) (ihiq (iq + 1) (by omega))
        · refine g_aload_n F dL_stand_26 rfl 4 rfl ?_
          refine g_iload F dL_stand_27 0 rfl ?_
          refine g_iaload (r := 714) F a714 (iq) rfl (by omega) (by decide) dL_stand_29 ?_
          refine g_top (y := nI (c9 + 8 * s9 + 256 * d9 + 1024 * w9)) en ?_
          refine g_bipush F (v := 8) dL_stand_30 (by decide +kernel) ?_
          refine g_ishr F dL_stand_32 ?_
          refine g_iconst F (v := 3) dL_stand_33 (by decide) ?_
          refine g_iand F dL_stand_34 ?_
          refine g_top (y := nI d9) (un_d hc9 hs9 hd9 hw9) ?_
          refine g_iconst F (v := 2) dL_stand_35 (by decide) ?_
          refine g_icmpN_ge F 43 dL_stand_36 (by decide) (d9) (2) rfl rfl (by omega) (by omega) (fun h2 => ?_) (fun h2 => ?_)
          · refine g_iconst F (v := 0) dL_stand_43 (by decide) ?_
            refine g_iadd F dL_stand_44 ?_
            refine g_istore_n F (lv2 := [(3, _), (4, _), (0, _), (1, _), (2, _)]) dL_stand_45 rfl (by decide) rfl ?_
            refine g_iinc F (lv2 := [(4, _), (3, _), (0, _), (1, _), (2, _)]) dL_stand_46 1 rfl (nI_1 _) (by decide) rfl ?_
            refine g_goto F 5 dL_stand_49 (by decide) ?_
            refine g_lv (lv2 := [(4, _), (3, _), (0, _), (1, _), (2, _)]) [0, 1, 2, 3, 4] rfl ?_
            exact g_is rfl (by first | rw [STL_n (d := d9) e1 hc9 hk h1] | rw [STL_m e1 e3 hd9 h2] | rw [STL_y e1 e3 h1 h2]) (ihiq (iq + 1) (by omega))
          · refine g_iconst F (v := 1) dL_stand_39 (by decide) ?_
            refine g_goto F 44 dL_stand_40 (by decide) ?_
            refine g_iadd F dL_stand_44 ?_
            refine g_istore_n F (lv2 := [(3, _), (4, _), (0, _), (1, _), (2, _)]) dL_stand_45 rfl (by decide) rfl ?_
            refine g_iinc F (lv2 := [(4, _), (3, _), (0, _), (1, _), (2, _)]) dL_stand_46 1 rfl (nI_1 _) (by decide) rfl ?_
            refine g_goto F 5 dL_stand_49 (by decide) ?_
            refine g_lv (lv2 := [(4, _), (3, _), (0, _), (1, _), (2, _)]) [0, 1, 2, 3, 4] rfl ?_
            exact g_is rfl (by first | rw [STL_n (d := d9) e1 hc9 hk h1] | rw [STL_m e1 e3 hd9 h2] | rw [STL_y e1 e3 h1 h2]) (ihiq (iq + 1) (by omega))
  refine g_lv (lv2 := [(4, _), (3, _), (0, _), (1, _), (2, _)]) [0, 1, 2, 3, 4] rfl ?_
  exact g_is rfl rfl (LP (m - 0) (0) (by omega))
