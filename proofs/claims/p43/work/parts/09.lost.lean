abbrev sh8 (x : Int64) : Int64 := (x.toUInt64 >>> ((8 : Int32).toInt64.toUInt64 &&& Int64.toUInt64 63)).toInt64
/-- how many characters, from the i-th on -/
def coF : Nat → Nat → Int64 → Int32
  | 0, i, x => if x = 0 then nI i else -1
  | n + 1, i, x => if x &&& 255 = 0 then (if x = 0 then nI i else -1) else if 33 ≤ (x &&& 255).toInt32 ∧ (x &&& 255).toInt32 ≤ 126 then coF n (i + 1) (sh8 x) else -1
theorem nI_ge0 (n : Nat) (h : n < 1000) : (0 : Int32) ≤ nI n := Int32.not_lt.mp (nI_pos (by omega))
