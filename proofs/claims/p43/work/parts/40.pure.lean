def fgR (f : Nat → Int32) (n : Nat) : Nat → Int32 := fun j => if 172 ≤ j ∧ j < 172 + n then -1 else f j
def staR (f : Nat → Int32) : Nat → Int32
  | 0 => 0
  | i + 1 => staR f i + (if f (132 + i) < 2 then 1 else 0)
/-- the reference's shade -/
def shr0 (f : Nat → Int32) (c : Nat) (x : Int32) : Int32 := (f (0 + c) + 1) / 2 + f (8 + c) - (x - f (24 + c) - (x - f (24 + c)) / f (16 + c) * f (16 + c))
def shR (f : Nat → Int32) (c : Nat) (x : Int32) : Int32 := if x - f (24 + c) < 0 then 0 else if shr0 f c x < 0 then 0 else if 5 < shr0 f c x then 5 else shr0 f c x
def tldR (f : Nat → Int32) (k : Nat) (s : Int32) : Int32 := s + f (56 + k) - (if f (59 + k) < 12 then 0 else 1)
def rdgR (f : Nat → Int32) (t k c : Nat) : Int32 := if 2 < f (32 + t / 4) ∧ shR f c (f 74) < 3 then 0 else if tldR f k (shR f c (f 74)) < 0 then 0 else if 5 < tldR f k (shR f c (f 74)) then 5 else tldR f k (shR f c (f 74))

theorem upd_ne (f : Nat → Int32) {k j : Nat} (x : Int32) (h : j ≠ k) : upd f k x j = f j := if_neg h
theorem upd_at (f : Nat → Int32) (k : Nat) (x : Int32) : upd f k x k = x := if_pos rfl
/-- the readings of chimney c, in the row -/
abbrev rgR (f : Nat → Int32) (c : Nat) : Nat → Int32 := fun j => f (172 + 96 * c + j)
/-- the grey and the shades of the tick are noted -/
def ndR (f : Nat → Int32) (t : Nat) : Nat → Nat → Int32
  | 0 => upd f (1708 + t) (f (32 + t / 4))
  | i + 1 => upd (ndR f t i) (940 + 96 * i + t) (shR (ndR f t i) i (nI t))
theorem ndR_lo (f : Nat → Int32) (t : Nat) {j : Nat} (h : j < 940) : ∀ i, ndR f t i j = f j
  | 0 => upd_ne _ _ (by omega)
  | i + 1 => (upd_ne _ _ (by omega)).trans (ndR_lo f t h i)
def waC (f : Nat → Int32) (t k c : Nat) : Nat → Int32 :=
  upd (upd (upd f (172 + 96 * c + t) (if f (172 + 96 * c + t) < rdgR f t k c then rdgR f t k c else f (172 + 96 * c + t))) (65 + k) (upd f (172 + 96 * c + t) (if f (172 + 96 * c + t) < rdgR f t k c then rdgR f t k c else f (172 + 96 * c + t)) (65 + k) + (if rdgR f t k c - shR f c (f 74) < 0 then -(rdgR f t k c - shR f c (f 74)) else rdgR f t k c - shR f c (f 74)))) (68 + k)
    (upd (upd f (172 + 96 * c + t) (if f (172 + 96 * c + t) < rdgR f t k c then rdgR f t k c else f (172 + 96 * c + t))) (65 + k) (upd f (172 + 96 * c + t) (if f (172 + 96 * c + t) < rdgR f t k c then rdgR f t k c else f (172 + 96 * c + t)) (65 + k) + (if rdgR f t k c - shR f c (f 74) < 0 then -(rdgR f t k c - shR f c (f 74)) else rdgR f t k c - shR f c (f 74))) (68 + k) + 1)
/-- an observer watches -/
def waR (f : Nat → Int32) (t k : Nat) : Nat → Int32 := if f (62 + k) = -1 then f else waC f t k (f (62 + k)).toNatClampNeg
/-- why an appeal would be upheld, from tick s on -/
def whR (f : Nat → Int32) (c s : Nat) : Nat → Int32
  | 0 => 2
  | i + 1 => if 2 < f (1708 + (s + i)) then 0 else if f (940 + 96 * c + (s + i)) < f 71 ∧ whR f c s i = 2 then 1 else whR f c s i
def gtS (f : Nat → Int32) (c : Nat) : Nat → Int32
  | 0 => 1
  | i + 1 => gtS f c i + (if f (92 + i) = nI c ∧ f (132 + i) < 2 then 1 else 0)
def gt3 (f : Nat → Int32) (n c : Nat) : Nat → Int32 := upd (upd (upd f (92 + n) (nI c)) (112 + n) (10 * gtS f c n)) (132 + n) 0
def gt5 (f : Nat → Int32) (t p n c : Nat) : Nat → Int32 :=
  upd (upd (gt3 f n c) (152 + n) (whR (gt3 f n c) c (t + 1 - p) p)) (76 + c) (upd (gt3 f n c) (152 + n) (whR (gt3 f n c) c (t + 1 - p) p) (76 + c) + 10 * gtS f c n)
/-- a notice is written -/
def gtR (f : Nat → Int32) (t p n c : Nat) : Nat → Int32 := upd (gt5 f t p n c) 75 (gt5 f t p n c 75 + 1)

/-- what every row keeps -/
def RV (f : Nat → Int32) (t p n : Nat) : Prop := t < 96 ∧ f 74 = nI t ∧ 1 ≤ p ∧ p ≤ 8 ∧ f 72 = nI p ∧ n ≤ 20 ∧ f 75 = nI n ∧ (∀ c, c < 8 → ¬ f (16 + c) = 0) ∧ (∀ k, k < 3 → f (62 + k) = -1 ∨ ∃ c, c < 8 ∧ f (62 + k) = nI c)
theorem RV_of {f g : Nat → Int32} {t p n : Nat} (h : ∀ j, 16 ≤ j ∧ j < 24 ∨ 62 ≤ j ∧ j < 65 ∨ 72 ≤ j ∧ j < 76 → g j = f j) (r : RV f t p n) : RV g t p n := by
  obtain ⟨a1, a2, a3, a4, a5, a6, a7, a8, a9⟩ := r
  refine ⟨a1, (h 74 (by omega)).trans a2, a3, a4, (h 72 (by omega)).trans a5, a6, (h 75 (by omega)).trans a7, ?_, ?_⟩
  · intro c hc; rw [h (16 + c) (by omega)]; exact a8 c hc
  · intro k hk; rw [h (62 + k) (by omega)]; exact a9 k hk
theorem waC_lo (f : Nat → Int32) {t k c j : Nat} (hk : k < 3) (h : j < 65 ∨ 71 ≤ j ∧ j < 172) : waC f t k c j = f j := by
  unfold waC
  rw [upd_ne _ _ (by omega), upd_ne _ _ (by omega), upd_ne _ _ (by omega)]
theorem waR_lo (f : Nat → Int32) {t k j : Nat} (hk : k < 3) (h : j < 65 ∨ 71 ≤ j ∧ j < 172) : waR f t k j = f j := by
  unfold waR
  split
  · rfl
  · exact waC_lo f hk h
def waI (f : Nat → Int32) (t : Nat) : Nat → Nat → Int32
  | 0 => f
  | k + 1 => waR (waI f t k) t k
theorem waI_lo (f : Nat → Int32) {t j : Nat} (h : j < 65 ∨ 71 ≤ j ∧ j < 172) : ∀ k, k ≤ 3 → waI f t k j = f j
  | 0, _ => rfl
  | k + 1, hk => (waR_lo _ (by omega) h).trans (waI_lo f h k (by omega))
/-- tiredness -/
def tiI (f : Nat → Int32) : Nat → Nat → Int32
  | 0 => f
  | k + 1 => upd (tiI f k) (59 + k) (if tiI f k (62 + k) = -1 then 0 else tiI f k (59 + k) + 1)
theorem tiI_lo (f : Nat → Int32) {j : Nat} (h : j < 59 ∨ 62 ≤ j) : ∀ k, k ≤ 3 → tiI f k j = f j
  | 0, _ => rfl
  | k + 1, hk => (upd_ne _ _ (by omega)).trans (tiI_lo f h k (by omega))
def gnR (f : Nat → Int32) (t p c : Nat) : Nat → Int32 := if f 75 < 20 ∧ nI (upR (rgR f c) (f 71) (t + 1)) = f 72 then gtR f t p (f 75).toNatClampNeg c else f
def gnI (f : Nat → Int32) (t p : Nat) : Nat → Nat → Int32
  | 0 => f
  | c + 1 => gnR (gnI f t p c) t p c
theorem gt3_lo (f : Nat → Int32) {n c j : Nat} (h : j < 92) : gt3 f n c j = f j := by
  unfold gt3
  rw [upd_ne _ _ (by omega), upd_ne _ _ (by omega), upd_ne _ _ (by omega)]
theorem gt5_lo (f : Nat → Int32) {t p n c j : Nat} (h : j < 76) : gt5 f t p n c j = f j := by
  unfold gt5
  rw [upd_ne _ _ (by omega), upd_ne _ _ (by omega), gt3_lo _ (by omega)]
theorem gtR_RV {f : Nat → Int32} {t p n c : Nat} (hn : n < 20) (r : RV f t p n) : RV (gtR f t p n c) t p (n + 1) := by
  have h : ∀ j, j < 75 → gtR f t p n c j = f j := fun j hj => (upd_ne _ _ (by omega)).trans (gt5_lo f (by omega))
  obtain ⟨a1, a2, a3, a4, a5, a6, a7, a8, a9⟩ := r
  refine ⟨a1, (h 74 (by omega)).trans a2, a3, a4, (h 72 (by omega)).trans a5, by omega, ?_, ?_, ?_⟩
  · rw [gtR, upd_at, gt5_lo _ (by omega), a7]; exact nI_add n 1
  · intro c hc; rw [h (16 + c) (by omega)]; exact a8 c hc
  · intro k hk; rw [h (62 + k) (by omega)]; exact a9 k hk
def goR (f : Nat → Int32) : Nat → Int32 := if upd f 74 (f 74 + 1) 74 = 96 then fgR (upd (upd (upd f 74 (f 74 + 1)) 74 0) 73 (upd (upd f 74 (f 74 + 1)) 74 0 73 + 1)) 768 else upd f 74 (f 74 + 1)
/-- a tick on the row -/
def tkR (f : Nat → Int32) (t p : Nat) : Nat → Int32 := goR (gnI (tiI (waI (ndR f t 8) t 3) 3) t p 8)
theorem RV_nd {f : Nat → Int32} {t p n i : Nat} (r : RV f t p n) : RV (ndR f t i) t p n := RV_of (fun j hj => ndR_lo f t (by omega) i) r
theorem RV_wa {f : Nat → Int32} {t p n i : Nat} (hi : i ≤ 3) (r : RV f t p n) : RV (waI f t i) t p n := RV_of (fun j hj => waI_lo f (by omega) i hi) r
theorem RV_ti {f : Nat → Int32} {t p n i : Nat} (hi : i ≤ 3) (r : RV f t p n) : RV (tiI f i) t p n := RV_of (fun j hj => tiI_lo f (by omega) i hi) r
theorem nI_inj {a b : Nat} (ha : a < 2 ^ 31) (hb : b < 2 ^ 31) (h : nI a = nI b) : a = b := by rw [← nI_clamp ha, h, nI_clamp hb]
theorem gnR_no1 {f : Nat → Int32} {t p n c : Nat} (h75 : f 75 = nI n) (hn : n ≤ 20) (h : 20 ≤ n) : gnR f t p c = f := by
  refine if_neg (fun z => ?_)
  have h2 := (nI_ltI (a := n) (b := 20) (by omega) (by omega)).mp (by rw [← h75]; exact z.1)
  omega
theorem gnR_no2 {f : Nat → Int32} {t p c : Nat} (h72 : f 72 = nI p) (h : ¬ nI (upR (rgR f c) (f 71) (t + 1)) = nI p) : gnR f t p c = f := if_neg (fun z => h (by rw [← h72]; exact z.2))
theorem gnR_yes {f : Nat → Int32} {t p n c : Nat} (h75 : f 75 = nI n) (h72 : f 72 = nI p) (hn : n < 20) (h : nI (upR (rgR f c) (f 71) (t + 1)) = nI p) : gnR f t p c = gtR f t p n c := by
  unfold gnR
  rw [if_pos (And.intro (by rw [h75]; exact (nI_ltI (a := n) (b := 20) (by omega) (by omega)).mpr hn) (by rw [h72]; exact h)), h75, nI_clamp (by omega)]
/-- a tick, by the row alone -/
def tkF (f : Nat → Int32) : Nat → Int32 := tkR f (f 74).toNatClampNeg (f 72).toNatClampNeg
def psR (f : Nat → Int32) : Nat → Nat → Int32
  | 0 => f
  | i + 1 => tkF (psR f i)
def RW (f : Nat → Int32) : Prop := ∃ t p n, RV f t p n
theorem tkF_is {f : Nat → Int32} {t p n : Nat} (r : RV f t p n) : tkF f = tkR f t p := by
  obtain ⟨a1, a2, a3, a4, a5, a6, a7, a8, a9⟩ := r
  rw [tkF, a2, a5, nI_clamp (by omega), nI_clamp (by omega)]
theorem ofk {x : Int32} {n : Nat} (hn : n < 1000) (h : 0 ≤ x ∧ x ≤ nI n) : ∃ c, c ≤ n ∧ x = nI c := by
  obtain ⟨j, hj, rfl⟩ := nI_of (Int32.not_lt.mpr h.1)
  exact ⟨j, (nI_leI hj (by omega)).mp h.2, rfl⟩
def finR (f : Nat → Int32) (x : Int32) : Nat → Int32
  | 0 => 0
  | i + 1 => finR f x i + (if f (92 + i) = x ∧ f (132 + i) < 2 then f (112 + i) else 0)
def wcR (f : Nat → Int32) (n : Nat) : Nat → Int32 × Int32
  | 0 => (-1, 0)
  | c + 1 => if (wcR f n c).2 < finR f (nI c) n then (nI c, finR f (nI c) n) else wcR f n c
def daB (f : Nat → Int32) (e : Nat) : Int32 := if f (152 + e) < 2 then 1 else 0
def daR (f : Nat → Int32) (e c : Nat) : Nat → Int32 := upd (upd f (132 + e) (if f (152 + e) < 2 then 2 else 1)) (84 + c) (upd f (132 + e) (if f (152 + e) < 2 then 2 else 1) (84 + c) + (if f (152 + e) < 2 then f (112 + e) else 0))
def cntR (f : Nat → Int32) (y : Int32) : Nat → Int32
  | 0 => 0
  | i + 1 => cntR f y i + (if f i < y then 0 else 1)
def lonR (f : Nat → Int32) (y : Int32) : Nat → Int32
  | 0 => 0
  | i + 1 => if lonR f y i < nI (upR f y (i + 1)) then nI (upR f y (i + 1)) else lonR f y i

abbrev lsR (f : Nat → Int32) (i b : Nat) : Prop := (f (65 + i)).toInt64 * (f (68 + b)).toInt64 < (f (65 + b)).toInt64 * (f (68 + i)).toInt64
def boR (f : Nat → Int32) : Nat → Int32
  | 0 => -1
  | i + 1 => if 0 < f (68 + i) ∧ (boR f i = -1 ∨ lsR f i (boR f i).toNatClampNeg) then nI i else boR f i
theorem boR_c (f : Nat → Int32) : ∀ i, boR f i = -1 ∨ ∃ b, b < i ∧ boR f i = nI b
  | 0 => Or.inl rfl
  | i + 1 => by
    unfold boR
    split
    · exact Or.inr ⟨i, by omega, rfl⟩
    · rcases boR_c f i with h | ⟨b, hb, e⟩
      · exact Or.inl h
      · exact Or.inr ⟨b, by omega, e⟩
