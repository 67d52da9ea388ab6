/-! the system and its reference as ONE memory: place r (0 .. 716, in the order in which the constructors make them) holds row M r; references never change but the history's order -/
abbrev Mm : Type := Nat → Nat → Int32
/-- the kind of place j of a ridge -/
def rk (j : Nat) : Nat := if j < 7 then (if j = 0 then 6 else if j = 1 then 12 else if j = 2 then 14 else if j = 3 then 13 else if j = 4 then 11 else if j = 5 then 1 else 11) else if j < 47 then (if (j - 7) % 5 = 0 then 0 else if (j - 7) % 5 = 1 then 1 else if (j - 7) % 5 = 3 then 1 else 11) else if j < 50 then 4 else 3
def rl (j : Nat) : Nat := if j = 4 then 24 else 96
/-- the kind of place r -/
def shp (r : Nat) : Nat := if r = 0 then 8 else if r < 71 then rk (r - 1) else if r < 141 then rk (r - 71) else if r = 141 then 2 else if r = 142 then 15 else if r < 563 then rk ((r - 143) % 70) else if r = 563 then 16 else if r = 564 then 5 else if r = 565 then 10 else if r = 566 then 11 else if r < 709 then (if (r - 567) % 71 = 0 then 7 else rk ((r - 567) % 71 - 1)) else 11
/-- the length of the row at place r, if it is an array of numbers -/
def len (r : Nat) : Nat := if r = 0 then 0 else if r < 71 then rl (r - 1) else if r < 141 then rl (r - 71) else if r < 143 then 0 else if r < 563 then rl ((r - 143) % 70) else if r < 565 then 0 else if r = 565 then 60 else if r = 566 then 8 else if r < 709 then rl ((r - 567) % 71 - 1) else if r = 709 then 32 else if r = 710 then 32 else if r = 711 then 20 else if r = 712 then 64 else if r = 713 then 48 else 20
/-- how many numbers of the row at place r count -/
def nf (r : Nat) : Nat := match shp r with
  | 0 => 6
  | 1 => 0
  | 2 => 2
  | 3 => 6
  | 4 => 5
  | 5 => 6
  | 6 => 10
  | 7 => 2
  | 8 => 0
  | 10 => len r
  | 11 => len r
  | 15 => 6
  | _ => 0
def lo (r : Nat) : Nat := match shp r with
  | 2 => 1
  | 5 => 1
  | 6 => 5
  | 7 => 1
  | _ => 0
def isR (k r : Nat) : Prop := r < 715 ∧ shp r = k
def isA (k n r : Nat) : Prop := r < 715 ∧ shp r = k ∧ len r = n
def allR (P : Nat → Bool) : Bool := (List.range 715).all P
theorem allR_spec {P : Nat → Bool} (h : allR P = true) {r : Nat} (hr : r < 715) : P r = true := List.all_eq_true.mp h r (List.mem_range.mpr hr)

theorem sb0_b : allR (fun r => !decide (shp r = 0) || (decide (r + 1 < 715) && decide (shp (r + 1) = 1) && decide (r + 3 < 715) && decide (shp (r + 3) = 1))) = true := by decide +kernel
theorem sb0 {r : Nat} (h : isR 0 r) : isR 1 (r + 1) ∧ isR 1 (r + 3) := by
  have q := allR_spec sb0_b h.1
  simp only [h.2, decide_true, Bool.not_true, Bool.false_or, Bool.and_eq_true, decide_eq_true_eq] at q
  simp only [isR, isA]
  omega
theorem sb1_b : allR (fun r => !decide (shp r = 1) || (decide (r + 1 < 715) && decide (shp (r + 1) = 11) && decide (len (r + 1) = 96))) = true := by decide +kernel
theorem sb1 {r : Nat} (h : isR 1 r) : isA 11 96 (r + 1) := by
  have q := allR_spec sb1_b h.1
  simp only [h.2, decide_true, Bool.not_true, Bool.false_or, Bool.and_eq_true, decide_eq_true_eq] at q
  simp only [isR, isA]
  omega
theorem sb2_b : allR (fun r => !decide (shp r = 2) || (decide (r + 1 < 715) && decide (shp (r + 1) = 15))) = true := by decide +kernel
theorem sb2 {r : Nat} (h : isR 2 r) : isR 15 (r + 1) := by
  have q := allR_spec sb2_b h.1
  simp only [h.2, decide_true, Bool.not_true, Bool.false_or, Bool.and_eq_true, decide_eq_true_eq] at q
  simp only [isR, isA]
  omega
theorem sb5_b : allR (fun r => !decide (shp r = 5) || (decide (r + 1 < 715) && decide (shp (r + 1) = 10) && decide (len (r + 1) = 60))) = true := by decide +kernel
theorem sb5 {r : Nat} (h : isR 5 r) : isA 10 60 (r + 1) := by
  have q := allR_spec sb5_b h.1
  simp only [h.2, decide_true, Bool.not_true, Bool.false_or, Bool.and_eq_true, decide_eq_true_eq] at q
  simp only [isR, isA]
  omega
theorem sb6_b : allR (fun r => !decide (shp r = 6) || (decide (r + 1 < 715) && decide (shp (r + 1) = 12) && decide (r + 2 < 715) && decide (shp (r + 2) = 14) && decide (r + 3 < 715) && decide (shp (r + 3) = 13) && decide (r + 4 < 715) && decide (shp (r + 4) = 11) && decide (len (r + 4) = 24) && decide (r + 5 < 715) && decide (shp (r + 5) = 1))) = true := by decide +kernel
theorem sb6 {r : Nat} (h : isR 6 r) : isR 12 (r + 1) ∧ isR 14 (r + 2) ∧ isR 13 (r + 3) ∧ isA 11 24 (r + 4) ∧ isR 1 (r + 5) := by
  have q := allR_spec sb6_b h.1
  simp only [h.2, decide_true, Bool.not_true, Bool.false_or, Bool.and_eq_true, decide_eq_true_eq] at q
  simp only [isR, isA]
  omega
theorem sb7_b : allR (fun r => !decide (shp r = 7) || (decide (r + 1 < 715) && decide (shp (r + 1) = 6))) = true := by decide +kernel
theorem sb7 {r : Nat} (h : isR 7 r) : isR 6 (r + 1) := by
  have q := allR_spec sb7_b h.1
  simp only [h.2, decide_true, Bool.not_true, Bool.false_or, Bool.and_eq_true, decide_eq_true_eq] at q
  simp only [isR, isA]
  omega
theorem sb8_b : allR (fun r => !decide (shp r = 8) || (decide (r + 1 < 715) && decide (shp (r + 1) = 6) && decide (r + 71 < 715) && decide (shp (r + 71) = 6) && decide (r + 141 < 715) && decide (shp (r + 141) = 2) && decide (r + 563 < 715) && decide (shp (r + 563) = 16) && decide (r + 564 < 715) && decide (shp (r + 564) = 5) && decide (r + 566 < 715) && decide (shp (r + 566) = 11) && decide (len (r + 566) = 8))) = true := by decide +kernel
theorem sb8 {r : Nat} (h : isR 8 r) : isR 6 (r + 1) ∧ isR 6 (r + 71) ∧ isR 2 (r + 141) ∧ isR 16 (r + 563) ∧ isR 5 (r + 564) ∧ isA 11 8 (r + 566) := by
  have q := allR_spec sb8_b h.1
  simp only [h.2, decide_true, Bool.not_true, Bool.false_or, Bool.and_eq_true, decide_eq_true_eq] at q
  simp only [isR, isA]
  omega
theorem el12_b : allR (fun r => !decide (shp r = 12) || (List.range 8).all (fun i => decide (r + 6 + 5 * i < 715) && decide (shp (r + 6 + 5 * i) = 0))) = true := by decide +kernel
theorem el12 {r i : Nat} (h : isR 12 r) (hi : i < 8) : isR 0 (r + 6 + 5 * i) := by
  have q := allR_spec el12_b h.1
  simp only [h.2, decide_true, Bool.not_true, Bool.false_or] at q
  have q2 := List.all_eq_true.mp q i (List.mem_range.mpr hi)
  simp only [Bool.and_eq_true, decide_eq_true_eq] at q2
  exact q2
theorem el14_b : allR (fun r => !decide (shp r = 14) || (List.range 3).all (fun i => decide (r + 45 + 1 * i < 715) && decide (shp (r + 45 + 1 * i) = 4))) = true := by decide +kernel
theorem el14 {r i : Nat} (h : isR 14 r) (hi : i < 3) : isR 4 (r + 45 + 1 * i) := by
  have q := allR_spec el14_b h.1
  simp only [h.2, decide_true, Bool.not_true, Bool.false_or] at q
  have q2 := List.all_eq_true.mp q i (List.mem_range.mpr hi)
  simp only [Bool.and_eq_true, decide_eq_true_eq] at q2
  exact q2
theorem el13_b : allR (fun r => !decide (shp r = 13) || (List.range 20).all (fun i => decide (r + 47 + 1 * i < 715) && decide (shp (r + 47 + 1 * i) = 3))) = true := by decide +kernel
theorem el13 {r i : Nat} (h : isR 13 r) (hi : i < 20) : isR 3 (r + 47 + 1 * i) := by
  have q := allR_spec el13_b h.1
  simp only [h.2, decide_true, Bool.not_true, Bool.false_or] at q
  have q2 := List.all_eq_true.mp q i (List.mem_range.mpr hi)
  simp only [Bool.and_eq_true, decide_eq_true_eq] at q2
  exact q2
theorem el15_b : allR (fun r => !decide (shp r = 15) || (List.range 6).all (fun i => decide (r + 1 + 70 * i < 715) && decide (shp (r + 1 + 70 * i) = 6))) = true := by decide +kernel
theorem el15 {r i : Nat} (h : isR 15 r) (hi : i < 6) : isR 6 (r + 1 + 70 * i) := by
  have q := allR_spec el15_b h.1
  simp only [h.2, decide_true, Bool.not_true, Bool.false_or] at q
  have q2 := List.all_eq_true.mp q i (List.mem_range.mpr hi)
  simp only [Bool.and_eq_true, decide_eq_true_eq] at q2
  exact q2
theorem el16_b : allR (fun r => !decide (shp r = 16) || (List.range 2).all (fun i => decide (r + 4 + 71 * i < 715) && decide (shp (r + 4 + 71 * i) = 7))) = true := by decide +kernel
theorem el16 {r i : Nat} (h : isR 16 r) (hi : i < 2) : isR 7 (r + 4 + 71 * i) := by
  have q := allR_spec el16_b h.1
  simp only [h.2, decide_true, Bool.not_true, Bool.false_or] at q
  have q2 := List.all_eq_true.mp q i (List.mem_range.mpr hi)
  simp only [Bool.and_eq_true, decide_eq_true_eq] at q2
  exact q2

/-- the kinds' fields -/
abbrev fs0 (B : Nat) (M : Mm) (r : Nat) : List Value := [.int (M r 0), .int (M r 1), .int (M r 2), .int (M r 3), .int (M r 4), .int (M r 5), .ref (B + (r + 1)), .ref (B + (r + 3))]
abbrev fs1 (B : Nat) (r : Nat) : List Value := [.ref (B + (r + 1))]
abbrev fs2 (B : Nat) (M : Mm) (r : Nat) : List Value := [.ref (B + (r + 1)), .int (M r 1)]
abbrev fs3 (M : Mm) (r : Nat) : List Value := [.int (M r 0), .int (M r 1), .int (M r 2), .int (M r 3), .int (M r 4), .int (M r 5)]
abbrev fs4 (M : Mm) (r : Nat) : List Value := [.int (M r 0), .int (M r 1), .int (M r 2), .int (M r 3), .int (M r 4)]
abbrev fs5 (B : Nat) (M : Mm) (r : Nat) : List Value := [.ref (B + (r + 1)), .int (M r 1), .int (M r 2), .int (M r 3), .int (M r 4), .int (M r 5)]
abbrev fs6 (B : Nat) (M : Mm) (r : Nat) : List Value := [.ref (B + (r + 1)), .ref (B + (r + 2)), .ref (B + (r + 3)), .ref (B + (r + 4)), .ref (B + (r + 5)), .int (M r 5), .int (M r 6), .int (M r 7), .int (M r 8), .int (M r 9)]
abbrev fs7 (B : Nat) (M : Mm) (r : Nat) : List Value := [.ref (B + (r + 1)), .int (M r 1)]
abbrev fs8 (B : Nat) (r : Nat) : List Value := [.ref (B + (r + 1)), .ref (B + (r + 71)), .ref (B + (r + 141)), .ref (B + (r + 563)), .ref (B + (r + 564)), .ref (B + (r + 566))]
abbrev qa (f : Nat → Nat) : (Nat → Int32) ⊕ (Nat → Int64) ⊕ (Nat → UInt32) ⊕ (Nat → UInt64) ⊕ (Nat → Option Nat) := .inr (.inr (.inr (.inr (fun i => some (f i)))))
/-- what place r holds; ca: the array classes -/
def cel (ca : Nat → ClassId) (B : Nat) (M : Mm) (r : Nat) : va_E := match shp r with
  | 0 => .inr (0, fs0 B M r)
  | 1 => .inr (1, fs1 B r)
  | 2 => .inr (2, fs2 B M r)
  | 3 => .inr (3, fs3 M r)
  | 4 => .inr (4, fs4 M r)
  | 5 => .inr (5, fs5 B M r)
  | 6 => .inr (6, fs6 B M r)
  | 7 => .inr (7, fs7 B M r)
  | 8 => .inr (8, fs8 B r)
  | 10 => .inl (ca 10, len r, .inl (M r))
  | 11 => .inl (ca 11, len r, .inl (M r))
  | 12 => .inl (ca 12, 8, qa (fun i => B + (r + 6 + 5 * i)))
  | 13 => .inl (ca 13, 20, qa (fun i => B + (r + 47 + 1 * i)))
  | 14 => .inl (ca 14, 3, qa (fun i => B + (r + 45 + 1 * i)))
  | 15 => .inl (ca 15, 6, qa (fun i => B + (r + 1 + 70 * (M r i).toNatClampNeg)))
  | _ => .inl (ca 16, 2, qa (fun i => B + (r + 4 + 71 * i)))
def wld (ca : Nat → ClassId) (B : Nat) (M : Mm) (Tl : va_W) : va_W := (List.range 715).map (fun r => (B + r, cel ca B M r)) ++ Tl
def tyl (ca : Nat → ClassId) : List (ClassId × FieldType) := [(ca 10, .char), (ca 11, .int), (ca 12, .object "ShadeCards$Chimney"), (ca 13, .object "ShadeCards$Notice"), (ca 14, .object "ShadeCards$Observer"), (ca 15, .object "ShadeCards$Ridge"), (ca 16, .object "ShadeCards$Slot")]
section WLD
variable {ca : Nat → ClassId} {B : Nat} {M : Mm} {Tl : va_W} {r : Nat}
theorem wld_at (h : r < 715) : (wld ca B M Tl)[r]? = some (B + r, cel ca B M r) := by
  unfold wld
  rw [List.getElem?_append_left (by simpa using h)]
  simp [h]

theorem wl0 (h : isR 0 r) : (wld ca B M Tl)[r]? = some (B + r, .inr (0, fs0 B M r)) := by rw [wld_at h.1]; simp only [cel, h.2]
theorem wl1 (h : isR 1 r) : (wld ca B M Tl)[r]? = some (B + r, .inr (1, fs1 B r)) := by rw [wld_at h.1]; simp only [cel, h.2]
theorem wl2 (h : isR 2 r) : (wld ca B M Tl)[r]? = some (B + r, .inr (2, fs2 B M r)) := by rw [wld_at h.1]; simp only [cel, h.2]
theorem wl3 (h : isR 3 r) : (wld ca B M Tl)[r]? = some (B + r, .inr (3, fs3 M r)) := by rw [wld_at h.1]; simp only [cel, h.2]
theorem wl4 (h : isR 4 r) : (wld ca B M Tl)[r]? = some (B + r, .inr (4, fs4 M r)) := by rw [wld_at h.1]; simp only [cel, h.2]
theorem wl5 (h : isR 5 r) : (wld ca B M Tl)[r]? = some (B + r, .inr (5, fs5 B M r)) := by rw [wld_at h.1]; simp only [cel, h.2]
theorem wl6 (h : isR 6 r) : (wld ca B M Tl)[r]? = some (B + r, .inr (6, fs6 B M r)) := by rw [wld_at h.1]; simp only [cel, h.2]
theorem wl7 (h : isR 7 r) : (wld ca B M Tl)[r]? = some (B + r, .inr (7, fs7 B M r)) := by rw [wld_at h.1]; simp only [cel, h.2]
theorem wl8 (h : isR 8 r) : (wld ca B M Tl)[r]? = some (B + r, .inr (8, fs8 B r)) := by rw [wld_at h.1]; simp only [cel, h.2]
theorem wl10 {n : Nat} (h : isA 10 n r) : (wld ca B M Tl)[r]? = some (B + r, .inl (ca 10, n, .inl (M r))) := by rw [wld_at h.1]; simp only [cel, h.2.1, h.2.2]
theorem wl11 {n : Nat} (h : isA 11 n r) : (wld ca B M Tl)[r]? = some (B + r, .inl (ca 11, n, .inl (M r))) := by rw [wld_at h.1]; simp only [cel, h.2.1, h.2.2]
theorem wl12 (h : isR 12 r) : (wld ca B M Tl)[r]? = some (B + r, .inl (ca 12, 8, qa (fun i => B + (r + 6 + 5 * i)))) := by rw [wld_at h.1]; simp only [cel, h.2]
theorem wl13 (h : isR 13 r) : (wld ca B M Tl)[r]? = some (B + r, .inl (ca 13, 20, qa (fun i => B + (r + 47 + 1 * i)))) := by rw [wld_at h.1]; simp only [cel, h.2]
theorem wl14 (h : isR 14 r) : (wld ca B M Tl)[r]? = some (B + r, .inl (ca 14, 3, qa (fun i => B + (r + 45 + 1 * i)))) := by rw [wld_at h.1]; simp only [cel, h.2]
theorem wl15 (h : isR 15 r) : (wld ca B M Tl)[r]? = some (B + r, .inl (ca 15, 6, qa (fun i => B + (r + 1 + 70 * (M r i).toNatClampNeg)))) := by rw [wld_at h.1]; simp only [cel, h.2]
theorem wl16 (h : isR 16 r) : (wld ca B M Tl)[r]? = some (B + r, .inl (ca 16, 2, qa (fun i => B + (r + 4 + 71 * i)))) := by rw [wld_at h.1]; simp only [cel, h.2]
theorem cel_row {M' : Mm} (h : M' r = M r) : cel ca B M' r = cel ca B M r := by
  unfold cel; simp only [fs0, fs2, fs3, fs4, fs5, fs6, fs7, h]
theorem wld_set {row : Nat → Int32} {e : va_E} (h : r < 715) (he : cel ca B (va_up M r row) r = e) : (wld ca B M Tl).set r (B + r, e) = wld ca B (va_up M r row) Tl := by
  unfold wld
  rw [List.set_append_left _ _ (by simpa using h)]
  refine congrArg (fun z => z ++ Tl) ?_
  refine List.ext_getElem? fun i => ?_
  by_cases hi : i = r
  · subst hi
    rw [List.getElem?_set_self (by simpa using h)]
    simp [h, he]
  · rw [List.getElem?_set_ne (fun q => hi q.symm)]
    by_cases hl : i < 715
    · simp only [List.getElem?_map, List.getElem?_range hl, Option.map_some]
      rw [cel_row (va_up_ne M row hi)]
    · simp [hl]

end WLD
/-- numbers that fit a char -/
def chr (x : Int32) : Prop := narrow .char (.int x) = .int x ∧ fits .char (.int x) = true
def bit (x : Int32) : Prop := x = 0 ∨ x = 1
theorem bit_z {x : Int32} (h : bit x) : narrow .boolean (.int x) = .int x ∧ fits .boolean (.int x) = true := by rcases h with rfl | rfl <;> decide +kernel
theorem bit_0 : bit 0 := Or.inl rfl
theorem bit_1 : bit 1 := Or.inr rfl
/-- what the fields' types say -/
def Ty (M : Mm) : Prop := (∀ r, shp r = 3 → ∀ k, 2 ≤ k → k < 6 → bit (M r k)) ∧ (∀ r, shp r = 7 → bit (M r 1)) ∧ chr (M 564 3) ∧ (∀ k, k < 60 → chr (M 565 k))
/-- the cells that a method may change -/
def Aw (B : Nat) (Tl : va_W) (sz : Nat) : Nat → Prop := fun q => (B ≤ q ∧ q < B + 715) ∨ (∃ (k : Nat) (e : va_E), Tl[k]? = some (q, e)) ∨ sz ≤ q
/-- the nest mates' links -/
def nstL : List (String × Nat × MethodName × String) := [(RX6, 59, yX4_init, "ShadeCards"), (RX6, 60, yX3_init, "ShadeCards"), (RX8, 34, yX5_init, "ShadeCards"), (RX8, 43, yX7_init, "ShadeCards"), (RX2, 25, yX8_isWithin, "ShadeCards"), (RX0, 48, yX8_hold, "ShadeCards"), (RX6, 109, yX8_isWithin, "ShadeCards"), (RX4, 27, yX8_hold, "ShadeCards"), (RX0, 51, yX8_isTick, "ShadeCards")]
def strL : List (String × Nat × String) := [("ShadeCards", 122, "an appeal against this notice was made"), ("ShadeCards", 283, "there is no change to undo"), ("ShadeCards", 301, "nothing was saved in this slot"), ("ShadeCards", 305, "an argument, or the pad, is not as it has to be"), ("ShadeCards", 310, "there is no such chimney"), ("ShadeCards", 313, "there is no such observer"), ("ShadeCards", 322, "there is no such notice"), ("ShadeCards", 328, "there is no such slot")]
def excL : List String := ["java/lang/IllegalArgumentException", "java/lang/IllegalStateException", "java/lang/IndexOutOfBoundsException"]
def supL : List String := ["java/lang/RuntimeException", "java/lang/Exception", Bundle.tN]
/-- which exceptions are no others -/
def Nc3 (U : State) : Prop := va_Nc "java/lang/IllegalArgumentException" "java/lang/IndexOutOfBoundsException" U ∧ va_Nc "java/lang/IllegalStateException" "java/lang/IndexOutOfBoundsException" U ∧ va_Nc "java/lang/IllegalStateException" "java/lang/IllegalArgumentException" U
theorem Nc3.moved {u U : State} (hvm : u.vm.Alike U.vm) (h : Nc3 u) : Nc3 U := ⟨va_Nc.moved hvm h.1, va_Nc.moved hvm h.2.1, va_Nc.moved hvm h.2.2⟩
/-- what throws and nest mates need of the machine -/
def Ex (A : Nat → Prop) (U : State) (H : Heap) : Prop := (∀ q ∈ nstL, va_Nw (.methodLinkNest q.1 q.2.1 q.2.2.1 q.2.2.2) U) ∧ vx_Zq Bundle.tN "UNASSIGNED_STACK" Bundle.steD A U H ∧ vx_Zq Bundle.tN "SUPPRESSED_SENTINEL" Bundle.listD A U H ∧ (∀ q ∈ strL, ∃ sa, vk_R q.1 q.2.1 q.2.2 sa U) ∧ (∀ X ∈ excL, va_Nw (.castable X X) U) ∧ (∀ Y ∈ supL, va_Nw (.declares (Bundle.initS Y)) U) ∧ Nc3 U
theorem Ex.warm {A A' : Nat → Prop} {s U : State} {H H' : Heap} (h : Ex A s H) (hW : s.WarmedH U.vm) (hk : ∀ a : Nat, a < H.size → ¬ A a → H'[a]? = H[a]?) (hA : ∀ q, A' q → A q) : Ex A' U H' :=
  ⟨fun q hq => va_Nw.warmM hW (h.1 q hq), (vx_Zq.moved hW.alike (h.2.1.kept hk)).narrow hA, (vx_Zq.moved hW.alike (h.2.2.1.kept hk)).narrow hA, fun q hq => (h.2.2.2.1 q hq).imp fun _ g => vk_R.warm hW g, fun X hX => va_Nw.warmC hW (h.2.2.2.2.1 X hX), fun Y hY => va_Nw.warmD hW (h.2.2.2.2.2.1 Y hY), Nc3.moved hW.alike h.2.2.2.2.2.2⟩
/-- a method's start: the heap's size, the world, the classes -/
def Pre (D : va_G) (ca : Nat → ClassId) (B : Nat) (Tl : va_W) (sz : Nat) (M : Mm) (U : State) : Prop := U.heap.size = sz ∧ va_P D vwCl (wld ca B M Tl) U.heap ∧ va_K D vwCl (tyl ca) U ∧ va_D (fun _ => True) (wld ca B M Tl) ∧ Ty M ∧ Ex (Aw B Tl sz) U U.heap
/-- the world, in a heap -/
def Wd (D : va_G) (ca : Nat → ClassId) (B : Nat) (Tl : va_W) (A : Nat → Prop) (M : Mm) (H : Heap) : Prop := va_P D vwCl (wld ca B M Tl) H ∧ va_D A (wld ca B M Tl) ∧ Ty M
theorem Ex.call {A : Nat → Prop} {U : State} {H : Heap} {g : JFrame} {mk : MethodId} {a : Array Value} (h : Ex A U H) : Ex A (U.calling g mk a) H := h.warm (U := U.calling g mk a) (State.WarmedH.refl U) (fun _ _ _ => rfl) (fun _ h => h)
theorem Pre.call {D : va_G} {ca : Nat → ClassId} {B : Nat} {Tl : va_W} {sz : Nat} {M : Mm} {U : State} {g : JFrame} {mk : MethodId} {a : Array Value} (h : Pre D ca B Tl sz M U) : Pre D ca B Tl sz M (U.calling g mk a) :=
  ⟨h.1, h.2.1, va_K.moved (u := U) (U := U.calling g mk a) (Vm.Alike.refl U.vm) h.2.2.1, h.2.2.2.1, h.2.2.2.2.1, h.2.2.2.2.2.call⟩
theorem wld_mem {ca : Nat → ClassId} {B : Nat} {M : Mm} {Tl : va_W} {k : Nat} {q : Nat × va_E} (h : (wld ca B M Tl)[k]? = some q) : (B ≤ q.1 ∧ q.1 < B + 715) ∨ (∃ (k : Nat) (e : va_E), Tl[k]? = some (q.1, e)) := by
  by_cases hk : k < 715
  · rw [wld_at hk] at h
    cases h
    exact Or.inl ⟨by show B ≤ B + k; omega, by show B + k < B + 715; omega⟩
  · unfold wld at h
    rw [List.getElem?_append_right (by simpa using Nat.le_of_not_lt hk)] at h
    exact Or.inr ⟨_, q.2, h⟩
theorem wld_addr {ca : Nat → ClassId} {B : Nat} {M M' : Mm} {Tl : va_W} {k : Nat} {q : Nat × va_E} (h : (wld ca B M Tl)[k]? = some q) : ∃ q', (wld ca B M' Tl)[k]? = some q' ∧ q'.1 = q.1 := by
  by_cases hk : k < 715
  · rw [wld_at hk] at h
    cases h
    exact ⟨_, wld_at hk, rfl⟩
  · unfold wld at h ⊢
    rw [List.getElem?_append_right (by simpa using Nat.le_of_not_lt hk)] at h ⊢
    exact ⟨q, by simpa using h, rfl⟩
theorem wld_D {ca : Nat → ClassId} {B : Nat} {M M' : Mm} {Tl : va_W} {A : Nat → Prop} (h : va_D A (wld ca B M Tl)) : va_D A (wld ca B M' Tl) := by
  refine ⟨fun i j x y hx hy e => ?_, fun k q hk => ?_⟩
  · obtain ⟨x', hx', ex⟩ := wld_addr (M' := M) hx
    obtain ⟨y', hy', ey⟩ := wld_addr (M' := M) hy
    exact h.1 i j x' y' hx' hy' (by rw [ex, ey, e])
  · obtain ⟨q', hq', eq⟩ := wld_addr (M' := M) hk
    rw [← eq]; exact h.2 k q' hq'
theorem Aw_in {B : Nat} {Tl : va_W} {sz : Nat} {ca : Nat → ClassId} {M : Mm} {A : Nat → Prop} (h : va_D A (wld ca B M Tl)) : va_D (Aw B Tl sz) (wld ca B M Tl) := ⟨h.1, fun k q hk => by
  rcases wld_mem hk with h | h
  · exact Or.inl h
  · exact Or.inr (Or.inl h)⟩
theorem Aw_of {B : Nat} {Tl : va_W} {sz : Nat} {ca : Nat → ClassId} {M : Mm} {A : Nat → Prop} (hD : va_D A (wld ca B M Tl)) (hA : ∀ q, sz ≤ q → A q) : ∀ q, Aw B Tl sz q → A q := by
  intro q h
  rcases h with ⟨h1, h2⟩ | ⟨k, e, h⟩ | h
  · have hk : q - B < 715 := by omega
    have := hD.2 (q - B) _ (wld_at hk)
    rw [show B + (q - B) = q by omega] at this
    exact this
  · have hk : (wld ca B M Tl)[715 + k]? = some (q, e) := by
      unfold wld
      rw [List.getElem?_append_right (by simp)]
      simpa using h
    exact hD.2 _ _ hk
  · exact hA q h

